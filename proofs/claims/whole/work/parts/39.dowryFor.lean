set_option maxHeartbeats 4000000 in
set_option maxRecDepth 100000 in
theorem l_Wb_dowryFor {G : zG} {n u : Nat} {Φ : zP} {ν : Nat → va_E} {S : Nat → Nat → Nat} {sc ch : Int32} {mo cs : Nat} {pr fa q : Nat → Nat} {kp : Int32} {ac : Value} {β : Nat → Nat → Nat} {its : Nat → zI} {D : zD6} (hob : isOb ν kp ac) (hi : iS S) (hbk : isBk ν 17 β) (hD : dzB β its D) {g : Nat} (hg : g < S 0 0) (hm : mo ≤ 16) (hx : iX S pr fa) : ∀ j k mt ct pt ft (qt : Nat → Nat) b x dd, k + j = 9 → b = (bdN S D (mo, pr, fa) g 1 k).1 → x = hdI (bdN S D (mo, pr, fa) g 1 k).2 →
    (∀ mt' ct' pt' ft' qt', Φ (some (.int (nI (bdN S D (mo, pr, fa) g 1 9).1))) (pcr (pcc ν S sc ch mo cs pr fa q) 43 mt' ct' pt' ft' qt')) →
    zW G 6 M_Wb_dowryFor 31 [.ref 4, .int (nI g), .int (nI (S 3 g)), .int (nI b), .int x, .int (nI (k + 1)), .retAddr 0] [] n u (pcr (pcc ν (un S 3 (un (S 3) g dd)) sc ch mo cs pr fa q) 43 mt ct pt ft qt) n u Φ
  | 0, k, mt, ct, pt, ft, qt, b, x, dd, e, eb, ex, K => by
    have hi0 := hi.1
    obtain rfl : k = 9 := by omega
    subst eb
    unfold isOb at hob
    refine z_il5 (pc' := 33) 19 rfl rfl ?_
    refine z_bipush (v := nI 9) (by decide) (pc' := 35) 20 rfl rfl ?_
    first | refine z_icmp_gtN (pc' := 38) 21 rfl rfl (tgt := 100) rfl (by omega) (by omega) (fun h35 => ?_) (fun h35 => ?_) | refine z_icmp_gt (pc' := 38) 21 rfl rfl (tgt := 100) rfl (fun h35 => ?_) (fun h35 => ?_)
    · refine z_al0 (pc' := 101) 52 rfl rfl ?_
      refine z_getf (pc' := 104) 53 rfl rfl f_Wb_10_11 (by first | exact pcr_0 | exact pcr_1 | exact pcr_2 | exact pcr_3 | (rw [pcr_o (by decide)]; first | exact pcc_5 | exact pcc_6 | exact pcc_7 | exact pcc_8 | exact pcc_9 | exact pcc_10 | exact pcc_11 | exact pcc_12 | exact pcc_13 | exact pcc_14 | exact pcc_15 | exact pcc_22 | (rw [pcc_o (by decide)]; assumption))) (by rfl) ?_
      refine z_getr (pc' := 107) 54 rfl rfl f_Wb_94_3 (by first | exact pcr_0 | exact pcr_1 | exact pcr_2 | exact pcr_3 | (rw [pcr_o (by decide)]; first | exact pcc_5 | exact pcc_6 | exact pcc_7 | exact pcc_8 | exact pcc_9 | exact pcc_10 | exact pcc_11 | exact pcc_12 | exact pcc_13 | exact pcc_14 | exact pcc_15 | exact pcc_22 | (rw [pcc_o (by decide)]; assumption))) (by rfl) ?_
      refine z_il1 (pc' := 108) 55 rfl rfl ?_
      refine z_il2 (pc' := 109) 56 rfl rfl ?_
      refine z_iast (pc' := 110) 57 rfl rfl (by first | exact pcr_0 | exact pcr_1 | exact pcr_2 | exact pcr_3 | (rw [pcr_o (by decide)]; first | exact pcc_5 | exact pcc_6 | exact pcc_7 | exact pcc_8 | exact pcc_9 | exact pcc_10 | exact pcc_11 | exact pcc_12 | exact pcc_13 | exact pcc_14 | exact pcc_15 | exact pcc_22 | (rw [pcc_o (by decide)]; assumption))) (by omega) (by decide) ?_
      rw [upd_n, pcr_out (by decide), pcc_s8, un_un, un_s, un_un, un_id, un_id]
      refine z_il3 (pc' := 111) 58 rfl rfl ?_
      exact z_ireturn 59 rfl rfl (by first | rfl | exact zbo_nar) rfl rfl (by exact K _ _ _ _ _)
    · exfalso; omega
  | j + 1, k, mt, ct, pt, ft, qt, b, x, dd, e, eb, ex, K => by
    have hi0 := hi.1
    have hvl := dvl_lt hi (D := D) (t := (mo, pr, fa)) (g := g) (k := k + 1) (by omega)
    have hbl := bdN_lt hi (D := D) (t := (mo, pr, fa)) (g := g) (b := 1) (by decide) k (by omega)
    have hi2 := iS_3 (g := g) (x := k + 1) hi (by omega)
    have hx2 : iX (un S 3 (un (S 3) g (k + 1))) pr (un fa g (k + 1)) := iX_fd hx (by omega)
    have hob0 := hob
    unfold isOb at hob
    refine z_il5 (pc' := 33) 19 rfl rfl ?_
    refine z_bipush (v := nI 9) (by decide) (pc' := 35) 20 rfl rfl ?_
    first | refine z_icmp_gtN (pc' := 38) 21 rfl rfl (tgt := 100) rfl (by omega) (by omega) (fun h35 => ?_) (fun h35 => ?_) | refine z_icmp_gt (pc' := 38) 21 rfl rfl (tgt := 100) rfl (fun h35 => ?_) (fun h35 => ?_)
    · exfalso; omega
    · refine z_al0 (pc' := 39) 22 rfl rfl ?_
      refine z_getf (pc' := 42) 23 rfl rfl f_Wb_10_11 (by first | exact pcr_0 | exact pcr_1 | exact pcr_2 | exact pcr_3 | (rw [pcr_o (by decide)]; first | exact pcc_5 | exact pcc_6 | exact pcc_7 | exact pcc_8 | exact pcc_9 | exact pcc_10 | exact pcc_11 | exact pcc_12 | exact pcc_13 | exact pcc_14 | exact pcc_15 | exact pcc_22 | (rw [pcc_o (by decide)]; assumption))) (by rfl) ?_
      refine z_getr (pc' := 45) 24 rfl rfl f_Wb_94_3 (by first | exact pcr_0 | exact pcr_1 | exact pcr_2 | exact pcr_3 | (rw [pcr_o (by decide)]; first | exact pcc_5 | exact pcc_6 | exact pcc_7 | exact pcc_8 | exact pcc_9 | exact pcc_10 | exact pcc_11 | exact pcc_12 | exact pcc_13 | exact pcc_14 | exact pcc_15 | exact pcc_22 | (rw [pcc_o (by decide)]; assumption))) (by rfl) ?_
      refine z_il1 (pc' := 46) 25 rfl rfl ?_
      refine z_il5 (pc' := 48) 26 rfl rfl ?_
      refine z_iast (pc' := 49) 27 rfl rfl (by first | exact pcr_0 | exact pcr_1 | exact pcr_2 | exact pcr_3 | (rw [pcr_o (by decide)]; first | exact pcc_5 | exact pcc_6 | exact pcc_7 | exact pcc_8 | exact pcc_9 | exact pcc_10 | exact pcc_11 | exact pcc_12 | exact pcc_13 | exact pcc_14 | exact pcc_15 | exact pcc_22 | (rw [pcc_o (by decide)]; assumption))) (by omega) (by decide) ?_
      rw [upd_n, pcr_out (by decide), pcc_s8, un_un, un_s, un_un]
      refine z_al0 (pc' := 50) 28 rfl rfl ?_
      refine z_getf (pc' := 53) 29 rfl rfl f_Wb_22_11 (by first | exact pcr_0 | exact pcr_1 | exact pcr_2 | exact pcr_3 | (rw [pcr_o (by decide)]; first | exact pcc_5 | exact pcc_6 | exact pcc_7 | exact pcc_8 | exact pcc_9 | exact pcc_10 | exact pcc_11 | exact pcc_12 | exact pcc_13 | exact pcc_14 | exact pcc_15 | exact pcc_22 | (rw [pcc_o (by decide)]; assumption))) (by rfl) ?_
      refine z_al0 (pc' := 54) 30 rfl rfl ?_
      refine z_getf (pc' := 57) 31 rfl rfl f_Wb_10_11 (by first | exact pcr_0 | exact pcr_1 | exact pcr_2 | exact pcr_3 | (rw [pcr_o (by decide)]; first | exact pcc_5 | exact pcc_6 | exact pcc_7 | exact pcc_8 | exact pcc_9 | exact pcc_10 | exact pcc_11 | exact pcc_12 | exact pcc_13 | exact pcc_14 | exact pcc_15 | exact pcc_22 | (rw [pcc_o (by decide)]; assumption))) (by rfl) ?_
      refine z_getr (pc' := 60) 32 rfl rfl f_Wb_97_3 (by first | exact pcr_0 | exact pcr_1 | exact pcr_2 | exact pcr_3 | (rw [pcr_o (by decide)]; first | exact pcc_5 | exact pcc_6 | exact pcc_7 | exact pcc_8 | exact pcc_9 | exact pcc_10 | exact pcc_11 | exact pcc_12 | exact pcc_13 | exact pcc_14 | exact pcc_15 | exact pcc_22 | (rw [pcc_o (by decide)]; assumption))) (by rfl) ?_
      refine z_callV0 (pc' := 63) 33 rfl rfl k_Wb_184 (by first | exact pcr_0 | exact pcr_1 | exact pcr_2 | exact pcr_3 | (rw [pcr_o (by decide)]; first | exact pcc_5 | exact pcc_6 | exact pcc_7 | exact pcc_8 | exact pcc_9 | exact pcc_10 | exact pcc_11 | exact pcc_12 | exact pcc_13 | exact pcc_14 | exact pcc_15 | exact pcc_22 | (rw [pcc_o (by decide)]; assumption))) (c_Cr_copyFrom isCr_pcc (Or.inl (by decide))) (by decide) (Nat.le_refl _) (Nat.le_refl _) rfl rfl (Nat.le_of_ble_eq_true rfl) ?_
      refine z_al0 (pc' := 64) 34 rfl rfl ?_
      refine z_getf (pc' := 67) 35 rfl rfl f_Wb_22_11 (by first | exact pcr_0 | exact pcr_1 | exact pcr_2 | exact pcr_3 | (rw [pcr_o (by decide)]; first | exact pcc_5 | exact pcc_6 | exact pcc_7 | exact pcc_8 | exact pcc_9 | exact pcc_10 | exact pcc_11 | exact pcc_12 | exact pcc_13 | exact pcc_14 | exact pcc_15 | exact pcc_22 | (rw [pcc_o (by decide)]; assumption))) (by rfl) ?_
      refine z_getr (pc' := 70) 36 rfl rfl f_Wb_103_4 (by first | exact pcr_0 | exact pcr_1 | exact pcr_2 | exact pcr_3 | (rw [pcr_o (by decide)]; first | exact pcc_5 | exact pcc_6 | exact pcc_7 | exact pcc_8 | exact pcc_9 | exact pcc_10 | exact pcc_11 | exact pcc_12 | exact pcc_13 | exact pcc_14 | exact pcc_15 | exact pcc_22 | (rw [pcc_o (by decide)]; assumption))) (by rfl) ?_
      refine z_il1 (pc' := 71) 37 rfl rfl ?_
      refine z_il5 (pc' := 73) 38 rfl rfl ?_
      refine z_iast (pc' := 74) 39 rfl rfl (by first | exact pcr_0 | exact pcr_1 | exact pcr_2 | exact pcr_3 | (rw [pcr_o (by decide)]; first | exact pcc_5 | exact pcc_6 | exact pcc_7 | exact pcc_8 | exact pcc_9 | exact pcc_10 | exact pcc_11 | exact pcc_12 | exact pcc_13 | exact pcc_14 | exact pcc_15 | exact pcc_22 | (rw [pcc_o (by decide)]; assumption))) (by omega) (by decide) ?_
      rw [upd_n, pcr_s2]
      refine z_al0 (pc' := 75) 40 rfl rfl ?_
      refine z_callVX1 (pc' := 78) 41 rfl rfl k_Wb_190 (by first | exact pcr_0 | exact pcr_1 | exact pcr_2 | exact pcr_3 | (rw [pcr_o (by decide)]; first | exact pcc_5 | exact pcc_6 | exact pcc_7 | exact pcc_8 | exact pcc_9 | exact pcc_10 | exact pcc_11 | exact pcc_12 | exact pcc_13 | exact pcc_14 | exact pcc_15 | exact pcc_22 | (rw [pcc_o (by decide)]; assumption))) (c_Wb_trialRest hob0 hi2 hbk hD hm hx2) (by decide) (Nat.le_refl _) (Nat.le_refl _) rfl rfl (Nat.le_of_ble_eq_true rfl) (fun q75 => ?_)
      refine z_te (show nI (rsA (un S 3 (un (S 3) g (k + 1))) D ((un S 3 (un (S 3) g (k + 1))) 0 3 - mo) 0 (mo, pr, un fa g (k + 1))) = nI (dvl S D (mo, pr, fa) g (k + 1)) from rfl) ?_
      refine z_is6 rfl rfl (pc' := 80) 42 rfl rfl ?_
      refine z_il6 (pc' := 82) 43 rfl rfl ?_
      refine z_il4 (pc' := 84) 44 rfl rfl ?_
      first | refine z_icmp_leN (pc' := 87) 45 rfl rfl (tgt := 94) rfl (by omega) (by omega) (fun h84 => ?_) (fun h84 => ?_) | refine z_icmp_le (pc' := 87) 45 rfl rfl (tgt := 94) rfl (fun h84 => ?_) (fun h84 => ?_)
      · have hc : dvl S D (mo, pr, fa) g (k + 1) + 1 ≤ (bdN S D (mo, pr, fa) g 1 k).2 := (le_hd (by omega) (by omega)).mp (by rw [← ex]; exact h84)
        first | refine z_inc5N rfl rfl (pc' := 97) 50 rfl rfl ?_ | refine z_inc5 rfl rfl rfl (pc' := 97) 50 rfl rfl ?_
        refine z_goto 51 rfl (tgt := 31) rfl ?_
        refine z_less6 ?_
        exact l_Wb_dowryFor hob0 hi hbk hD hg hm hx j (k + 1) _ _ _ _ _ _ _ _ (by omega) (by rw [bdN, if_pos hc]; exact eb) (by rw [bdN, if_pos hc]; exact ex) K
      · have hc : ¬ dvl S D (mo, pr, fa) g (k + 1) + 1 ≤ (bdN S D (mo, pr, fa) g 1 k).2 := fun z => h84 (by rw [ex]; exact (le_hd (by omega) (by omega)).mpr z)
        refine z_il6 (pc' := 89) 46 rfl rfl ?_
        refine z_is4 rfl rfl (pc' := 91) 47 rfl rfl ?_
        refine z_il5 (pc' := 93) 48 rfl rfl ?_
        refine z_is3 rfl rfl (pc' := 94) 49 rfl rfl ?_
        
        first | refine z_inc5N rfl rfl (pc' := 97) 50 rfl rfl ?_ | refine z_inc5 rfl rfl rfl (pc' := 97) 50 rfl rfl ?_
        refine z_goto 51 rfl (tgt := 31) rfl ?_
        refine z_less6 ?_
        exact l_Wb_dowryFor hob0 hi hbk hD hg hm hx j (k + 1) _ _ _ _ _ _ _ _ (by omega) (by rw [bdN, if_neg hc]) (by rw [bdN, if_neg hc]; exact (hdI_s _).symm) K
set_option maxHeartbeats 4000000 in
set_option maxRecDepth 100000 in
theorem c_Wb_dowryFor {G : zG} {n u : Nat} {μ : Nat → va_E} {κ : zκ} {kp : Int32} {ac : Value} (h : cst μ κ) (hob : isOb μ kp ac) (htr : isTr μ) (x : Int32) :
    zMet G 6 M_Wb_dowryFor [.ref 4, .int x] n u μ n u (cKt μ (f_dowryFor κ x)) := by
  obtain ⟨S, mo, pr, fa, sc, ch, rc, D⟩ := κ
  have hst := h
  obtain ⟨h1, ⟨cs, q, h2⟩, ⟨β, its, h3, h3a, h3b⟩, ⟨c23, h4⟩, h5⟩ := h
  have hk5 := h5
  obtain ⟨hi, hx, hmo, hrc⟩ := h5
  have hi0 := hi.1
  have hi1 := hi.2.1
  have hi2 := hi.2.2.1
  have hi3 := hi.2.2.2.2.1
  have hm16 : mo ≤ 16 := by omega
  refine z_start (lv := [.ref 4, .int x, .retAddr 0, .retAddr 0, .retAddr 0, .retAddr 0, .retAddr 0]) K_Wb_dowryFor rfl rfl (Nat.le_refl _) (Nat.le_refl _) (Nat.le_of_ble_eq_true rfl) rfl ?_
  have hob0 := hob
  unfold isOb at hob
  obtain ⟨mt, ct, pt, ft, qt, htr⟩ := htr
  refine z_mu (show μ = pcr (pcc μ S sc ch mo cs pr fa q) 43 mt ct pt ft qt by rw [pcc_id h1 h2, pcr_id htr]) ?_
  refine z_al0 (pc' := 1) 0 rfl rfl ?_
  refine z_getf (pc' := 4) 1 rfl rfl f_Wb_10_11 (by first | exact pcr_0 | exact pcr_1 | exact pcr_2 | exact pcr_3 | (rw [pcr_o (by decide)]; first | exact pcc_5 | exact pcc_6 | exact pcc_7 | exact pcc_8 | exact pcc_9 | exact pcc_10 | exact pcc_11 | exact pcc_12 | exact pcc_13 | exact pcc_14 | exact pcc_15 | exact pcc_22 | (rw [pcc_o (by decide)]; assumption))) (by rfl) ?_
  refine z_il1 (pc' := 5) 2 rfl rfl ?_
  refine z_callV1 (pc' := 8) 3 rfl rfl k_Wb_84 (by first | exact pcr_0 | exact pcr_1 | exact pcr_2 | exact pcr_3 | (rw [pcr_o (by decide)]; first | exact pcc_5 | exact pcc_6 | exact pcc_7 | exact pcc_8 | exact pcc_9 | exact pcc_10 | exact pcc_11 | exact pcc_12 | exact pcc_13 | exact pcc_14 | exact pcc_15 | exact pcc_22 | (rw [pcc_o (by decide)]; assumption))) (c_Co_hasGirl isCo_pcr43 hi _) (by decide) (Nat.le_refl _) (Nat.le_refl _) rfl rfl (Nat.le_of_ble_eq_true rfl) ?_
  first | refine z_if_neB (pc' := 11) 4 rfl rfl (tgt := 13) rfl (fun h8 => ?_) (fun h8 => ?_) | refine z_if_neN (pc' := 11) 4 rfl rfl (tgt := 13) rfl (by omega) (fun h8 => ?_) (fun h8 => ?_) | refine z_if_ne (pc' := 11) 4 rfl rfl (tgt := 13) rfl (fun h8 => ?_) (fun h8 => ?_)
  · obtain ⟨g, hg, rfl⟩ := z_in h8 (by omega)
    refine z_al0 (pc' := 14) 7 rfl rfl ?_
    refine z_getf (pc' := 17) 8 rfl rfl f_Wb_10_11 (by first | exact pcr_0 | exact pcr_1 | exact pcr_2 | exact pcr_3 | (rw [pcr_o (by decide)]; first | exact pcc_5 | exact pcc_6 | exact pcc_7 | exact pcc_8 | exact pcc_9 | exact pcc_10 | exact pcc_11 | exact pcc_12 | exact pcc_13 | exact pcc_14 | exact pcc_15 | exact pcc_22 | (rw [pcc_o (by decide)]; assumption))) (by rfl) ?_
    refine z_getr (pc' := 20) 9 rfl rfl f_Wb_94_3 (by first | exact pcr_0 | exact pcr_1 | exact pcr_2 | exact pcr_3 | (rw [pcr_o (by decide)]; first | exact pcc_5 | exact pcc_6 | exact pcc_7 | exact pcc_8 | exact pcc_9 | exact pcc_10 | exact pcc_11 | exact pcc_12 | exact pcc_13 | exact pcc_14 | exact pcc_15 | exact pcc_22 | (rw [pcc_o (by decide)]; assumption))) (by rfl) ?_
    refine z_il1 (pc' := 21) 10 rfl rfl ?_
    refine z_iald (pc' := 22) 11 rfl rfl (by first | exact pcr_0 | exact pcr_1 | exact pcr_2 | exact pcr_3 | (rw [pcr_o (by decide)]; first | exact pcc_5 | exact pcc_6 | exact pcc_7 | exact pcc_8 | exact pcc_9 | exact pcc_10 | exact pcc_11 | exact pcc_12 | exact pcc_13 | exact pcc_14 | exact pcc_15 | exact pcc_22 | (rw [pcc_o (by decide)]; assumption))) (by omega) (by decide) ?_
    refine z_is2 rfl rfl (pc' := 23) 12 rfl rfl ?_
    refine z_iconst (v := nI 1) (by decide) (pc' := 24) 13 rfl rfl ?_
    refine z_is3 rfl rfl (pc' := 25) 14 rfl rfl ?_
    refine z_iconst (v := (-1)) (by decide) (pc' := 26) 15 rfl rfl ?_
    refine z_is4 rfl rfl (pc' := 28) 16 rfl rfl ?_
    refine z_iconst (v := nI 1) (by decide) (pc' := 29) 17 rfl rfl ?_
    refine z_is5 rfl rfl (pc' := 31) 18 rfl rfl ?_
    refine z_mu (show _ = pcr (pcc μ (un S 3 (un (S 3) g (S 3 g))) sc ch mo cs pr fa q) 43 mt ct pt ft qt by rw [un_id, un_id]) ?_
    refine l_Wb_dowryFor hob0 hi h3 h3a hg hm16 hx 9 0 _ _ _ _ _ 1 _ _ (by omega) rfl rfl (fun mt1 ct1 pt1 ft1 qt1 => ?_)
    rw [bdN_b (b := 1) (c := 0)]
    show cKt μ _ _ _; rw [f_dowryFor, if_pos h8, tN_n (by omega)]; exact cKt_of hst rfl rfl (hk5)
  · refine z_iconst (v := (-1)) (by decide) (pc' := 12) 5 rfl rfl ?_
    exact z_ireturn 6 rfl rfl (by first | rfl | exact zbo_nar) rfl rfl (by show cKt μ _ _ _; rw [f_dowryFor, if_neg h8]; exact cKt_of hst rfl rfl (hk5))
set_option maxHeartbeats 4000000 in
set_option maxRecDepth 100000 in
theorem l_Mo_dowryFor {G : zG} {n u : Nat} {Φ : zP} {ν : Nat → va_E} {s : Nat → Int32} {S : Nat → Nat → Nat} {ch : Int32} {rc : Nat} {ρ : Nat → Int32} {D : zD6} (hi : iS S) (hD : dzM ρ rc D) {g mo : Nat} {pr fa : Nat → Nat} {sc : Int32} (hg : g < S 0 0) (hm : mo ≤ 16) (hx : iX S pr fa) : ∀ j k (q : Nat → Int32) v b x, k + j = 9 → b = (bdN S D (mo, pr, fa) g 0 k).1 → x = hdI (bdN S D (mo, pr, fa) g 0 k).2 →
    (∀ (q' : Nat → Int32) v', Φ (some (.int (nI (bdN S D (mo, pr, fa) g 0 9).1))) (pm (zu (zu ν 91 (.inl (0, 618, .inl (mk S mo pr fa sc ch rc ρ)))) 93 (.inl (1, 100, .inl q'))) (un s 14 v') (mk S mo pr fa sc ch rc ρ))) →
    zW G 7 M_Mo_dowryFor 21 [.ref 88, .int (nI g), .int (nI b), .int x, .int (nI (k + 1)), .retAddr 0] [] n u (pm (zu (zu ν 91 (.inl (0, 618, .inl (mk S mo pr fa sc ch rc ρ)))) 93 (.inl (1, 100, .inl q))) (un s 14 v) (mk S mo pr fa sc ch rc ρ)) n u Φ
  | 0, k, q, v, b, x, e, eb, ex, K => by
    obtain rfl : k = 9 := by omega
    subst eb
    refine z_il4 (pc' := 23) 14 rfl rfl ?_
    refine z_bipush (v := nI 10) (by decide) (pc' := 25) 15 rfl rfl ?_
    first | refine z_icmp_geN (pc' := 28) 16 rfl rfl (tgt := 84) rfl (by omega) (by omega) (fun h25 => ?_) (fun h25 => ?_) | refine z_icmp_ge (pc' := 28) 16 rfl rfl (tgt := 84) rfl (fun h25 => ?_) (fun h25 => ?_)
    · refine z_il2 (pc' := 85) 47 rfl rfl ?_
      exact z_ireturn 48 rfl rfl (by first | rfl | exact zbo_nar) rfl rfl (by exact K _ _)
    · exfalso; omega
  | j + 1, k, q, v, b, x, e, eb, ex, K => by
    have hi0 := hi.1
    have hi3 := hi.2.2.2.2.1
    have hvl := dvl_lt hi (D := D) (t := (mo, pr, fa)) (g := g) (k := k + 1) (by omega)
    have hbl := bdN_lt hi (D := D) (t := (mo, pr, fa)) (g := g) (b := 0) (by decide) k (by omega)
    have hi2 := iS_3 (g := g) (x := k + 1) hi (by omega)
    have hx2 : iX (un S 3 (un (S 3) g (k + 1))) pr (un fa g (k + 1)) := iX_fd hx (by omega)
    have hwk : rsA (un S 3 (un (S 3) g (k + 1))) D (min 16 ((un S 3 (un (S 3) g (k + 1))) 0 3 - mo)) 0 (mo, pr, un fa g (k + 1)) = dvl S D (mo, pr, fa) g (k + 1) := by
      show rsA (un S 3 (un (S 3) g (k + 1))) D (min 16 (S 0 3 - mo)) 0 (mo, pr, un fa g (k + 1)) = _
      rw [show min 16 (S 0 3 - mo) = S 0 3 - mo by omega]
      rfl
    refine z_il4 (pc' := 23) 14 rfl rfl ?_
    refine z_bipush (v := nI 10) (by decide) (pc' := 25) 15 rfl rfl ?_
    first | refine z_icmp_geN (pc' := 28) 16 rfl rfl (tgt := 84) rfl (by omega) (by omega) (fun h25 => ?_) (fun h25 => ?_) | refine z_icmp_ge (pc' := 28) 16 rfl rfl (tgt := 84) rfl (fun h25 => ?_) (fun h25 => ?_)
    · exfalso; omega
    · refine z_al0 (pc' := 29) 17 rfl rfl ?_
      refine z_il1 (pc' := 30) 18 rfl rfl ?_
      refine z_iconst (v := nI 2) (by decide) (pc' := 31) 19 rfl rfl ?_
      refine z_il4 (pc' := 33) 20 rfl rfl ?_
      refine z_callV0 (pc' := 36) 21 rfl rfl k_Mo_88 (by first | exact pm_f | exact pm_1 | (rw [pm_o (by decide)]; first | exact zu_s | (rw [zu_n (by decide)]; first | exact zu_s | (rw [zu_n (by decide)]; assumption)))) (c_Mo_put2 (by omega)) (by decide) (Nat.le_refl _) (Nat.le_refl _) rfl rfl (Nat.le_of_ble_eq_true rfl) ?_
      refine z_al0 (pc' := 37) 22 rfl rfl ?_
      refine z_il1 (pc' := 38) 23 rfl rfl ?_
      refine z_iconst (v := nI 4) (by decide) (pc' := 39) 24 rfl rfl ?_
      refine z_il4 (pc' := 41) 25 rfl rfl ?_
      refine z_callV0 (pc' := 44) 26 rfl rfl k_Mo_88 (by first | exact pm_f | exact pm_1 | (rw [pm_o (by decide)]; first | exact zu_s | (rw [zu_n (by decide)]; first | exact zu_s | (rw [zu_n (by decide)]; assumption)))) (c_Mo_put4 (by omega)) (by decide) (Nat.le_refl _) (Nat.le_refl _) rfl rfl (Nat.le_of_ble_eq_true rfl) ?_
      refine z_al0 (pc' := 45) 27 rfl rfl ?_
      refine z_bipush (v := nI 16) (by decide) (pc' := 47) 28 rfl rfl ?_
      refine z_callVX1 (pc' := 50) 29 rfl rfl k_Mo_230 (by first | exact pm_f | exact pm_1 | (rw [pm_o (by decide)]; first | exact zu_s | (rw [zu_n (by decide)]; first | exact zu_s | (rw [zu_n (by decide)]; assumption)))) (c_Mo_restOf hi2 hD (by decide) hm hx2) (by decide) (Nat.le_refl _) (Nat.le_refl _) rfl rfl (Nat.le_of_ble_eq_true rfl) (fun q47 => ?_)
      rw [un_un, hwk]
      refine z_is5 rfl rfl (pc' := 52) 30 rfl rfl ?_
      refine z_il5 (pc' := 54) 31 rfl rfl ?_
      refine z_il3 (pc' := 55) 32 rfl rfl ?_
      first | refine z_icmp_leN (pc' := 58) 33 rfl rfl (tgt := 63) rfl (by omega) (by omega) (fun h55 => ?_) (fun h55 => ?_) | refine z_icmp_le (pc' := 58) 33 rfl rfl (tgt := 63) rfl (fun h55 => ?_) (fun h55 => ?_)
      · have hc : dvl S D (mo, pr, fa) g (k + 1) + 1 ≤ (bdN S D (mo, pr, fa) g 0 k).2 := (le_hd (by omega) (by omega)).mp (by rw [← ex]; exact h55)
        refine z_il2 (pc' := 64) 36 rfl rfl ?_
        refine z_is2 rfl rfl (pc' := 65) 37 rfl rfl ?_
        refine z_il5 (pc' := 67) 38 rfl rfl ?_
        refine z_il3 (pc' := 68) 39 rfl rfl ?_
        refine z_icmp_le_t 40 rfl (tgt := 76) rfl h55 ?_
        refine z_il3 (pc' := 77) 43 rfl rfl ?_
        refine z_is3 rfl rfl (pc' := 78) 44 rfl rfl ?_
        first | refine z_inc4N rfl rfl (pc' := 81) 45 rfl rfl ?_ | refine z_inc4 rfl rfl rfl (pc' := 81) 45 rfl rfl ?_
        refine z_goto 46 rfl (tgt := 21) rfl ?_
        refine z_less5 ?_
        exact l_Mo_dowryFor hi hD hg hm hx j (k + 1) _ _ _ _ (by omega) (by rw [bdN, if_pos hc]; exact eb) (by rw [bdN, if_pos hc]; exact ex) K
      · have hc : ¬ dvl S D (mo, pr, fa) g (k + 1) + 1 ≤ (bdN S D (mo, pr, fa) g 0 k).2 := fun z => h55 (by rw [ex]; exact (le_hd (by omega) (by omega)).mpr z)
        refine z_il4 (pc' := 60) 34 rfl rfl ?_
        refine z_goto 35 rfl (tgt := 64) rfl ?_
        refine z_is2 rfl rfl (pc' := 65) 37 rfl rfl ?_
        refine z_il5 (pc' := 67) 38 rfl rfl ?_
        refine z_il3 (pc' := 68) 39 rfl rfl ?_
        refine z_icmp_le_f (pc' := 71) 40 rfl rfl (tgt := 76) rfl h55 ?_
        refine z_il5 (pc' := 73) 41 rfl rfl ?_
        refine z_goto 42 rfl (tgt := 77) rfl ?_
        refine z_is3 rfl rfl (pc' := 78) 44 rfl rfl ?_
        first | refine z_inc4N rfl rfl (pc' := 81) 45 rfl rfl ?_ | refine z_inc4 rfl rfl rfl (pc' := 81) 45 rfl rfl ?_
        refine z_goto 46 rfl (tgt := 21) rfl ?_
        refine z_less5 ?_
        exact l_Mo_dowryFor hi hD hg hm hx j (k + 1) _ _ _ _ (by omega) (by rw [bdN, if_neg hc]) (by rw [bdN, if_neg hc]; exact (hdI_s _).symm) K
set_option maxHeartbeats 4000000 in
set_option maxRecDepth 100000 in
theorem c_Mo_dowryFor {G : zG} {n u : Nat} {μ : Nat → va_E} {κ : zκ} {s : Nat → Int32} (h : mst μ s κ) (x : Int32) :
    zMet G 7 M_Mo_dowryFor [.ref 88, .int x] n u μ n u (mK μ s (f_dowryFor κ x)) := by
  obtain ⟨S, mo, pr, fa, sc, ch, rc, D⟩ := κ
  have hst := h
  obtain ⟨⟨ρ, h1, hD⟩, h2, ⟨q93, h93⟩, ⟨q91, h91⟩, ⟨q94, h94⟩, ⟨q95, h95⟩, ⟨q96, h96⟩, ⟨q97, h97⟩, h5⟩ := h
  have hk5 := h5
  obtain ⟨hi, hx, hmo, hrc⟩ := h5
  have hi0 := hi.1
  have hi1 := hi.2.1
  have hi2 := hi.2.2.1
  have hi3 := hi.2.2.2.2.1
  have hm16 : mo ≤ 16 := by omega
  refine z_start (lv := [.ref 88, .int x, .retAddr 0, .retAddr 0, .retAddr 0, .retAddr 0]) K_Mo_dowryFor rfl rfl (Nat.le_refl _) (Nat.le_refl _) (Nat.le_of_ble_eq_true rfl) rfl ?_
  refine z_mu (show μ = pm (zu (zu μ 91 (.inl (0, 618, .inl q91))) 93 (.inl (1, 100, .inl q93))) s (mk S mo pr fa sc ch rc ρ) by rw [zu_id h91, zu_id h93, pm_id h2 h1]) ?_
  refine z_al0 (pc' := 1) 0 rfl rfl ?_
  refine z_il1 (pc' := 2) 1 rfl rfl ?_
  refine z_callV1 (pc' := 5) 2 rfl rfl k_Mo_92 (by first | exact pm_f | exact pm_1 | (rw [pm_o (by decide)]; first | exact zu_s | (rw [zu_n (by decide)]; first | exact zu_s | (rw [zu_n (by decide)]; assumption)))) (c_Mo_isGirl hi _) (by decide) (Nat.le_refl _) (Nat.le_refl _) rfl rfl (Nat.le_of_ble_eq_true rfl) ?_
  first | refine z_if_neB (pc' := 8) 3 rfl rfl (tgt := 10) rfl (fun h5 => ?_) (fun h5 => ?_) | refine z_if_neN (pc' := 8) 3 rfl rfl (tgt := 10) rfl (by omega) (fun h5 => ?_) (fun h5 => ?_) | refine z_if_ne (pc' := 8) 3 rfl rfl (tgt := 10) rfl (fun h5 => ?_) (fun h5 => ?_)
  · obtain ⟨g, hg, rfl⟩ := z_in h5 (by omega)
    refine z_al0 (pc' := 11) 6 rfl rfl ?_
    refine z_callV0 (pc' := 14) 7 rfl rfl k_Mo_194 (by first | exact pm_f | exact pm_1 | (rw [pm_o (by decide)]; first | exact zu_s | (rw [zu_n (by decide)]; first | exact zu_s | (rw [zu_n (by decide)]; assumption)))) (c_Mo_thinks) (by decide) (Nat.le_refl _) (Nat.le_refl _) rfl rfl (Nat.le_of_ble_eq_true rfl) ?_
    refine z_iconst (v := nI 0) (by decide) (pc' := 15) 8 rfl rfl ?_
    refine z_is2 rfl rfl (pc' := 16) 9 rfl rfl ?_
    refine z_iconst (v := (-1)) (by decide) (pc' := 17) 10 rfl rfl ?_
    refine z_is3 rfl rfl (pc' := 18) 11 rfl rfl ?_
    refine z_iconst (v := nI 1) (by decide) (pc' := 19) 12 rfl rfl ?_
    refine z_is4 rfl rfl (pc' := 21) 13 rfl rfl ?_
    refine z_mu (show _ = pm (zu (zu μ 91 (.inl (0, 618, .inl (mk S mo pr fa sc ch rc ρ)))) 93 (.inl (1, 100, .inl q93))) (un s 14 (s 14)) (mk S mo pr fa sc ch rc ρ) by rw [un_id]) ?_
    refine l_Mo_dowryFor hi hD hg hm16 hx 9 0 _ _ 0 _ (by omega) rfl rfl (fun q1 v1 => ?_)
    show mK μ s _ _ _; rw [f_dowryFor, if_pos h5, tN_n (by omega)]; exact mK_of3 hst (sEq14) hD (hk5)
  · refine z_iconst (v := (-1)) (by decide) (pc' := 9) 4 rfl rfl ?_
    exact z_ireturn 5 rfl rfl (by first | rfl | exact zbo_nar) rfl rfl (by show mK μ s _ _ _; rw [f_dowryFor, if_neg h5]; exact mK_of3 hst (sEq_r) hD (hk5))
