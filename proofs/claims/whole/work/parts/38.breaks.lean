set_option maxHeartbeats 4000000 in
set_option maxRecDepth 100000 in
theorem l_Wb_breaks {G : zG} {n u : Nat} {Φ : zP} {ν : Nat → va_E} {S : Nat → Nat → Nat} {sc ch : Int32} {mo cs : Nat} {pr fa q : Nat → Nat} {kp : Int32} {ac : Value} {β : Nat → Nat → Nat} {its : Nat → zI} {D : zD6} (hob : isOb ν kp ac) (hi : iS S) (hbk : isBk ν 17 β) (hD : dzB β its D) {g w : Nat} (hg : g < 6) (hw : w ≤ 6) : ∀ j mt ct pt ft (qt : Nat → Nat), j = S 0 3 - mt → mt ≤ 16 → iX S pt ft →
    (∀ mt' ct' pt' ft' qt', Φ (some (.int (bkA S D g w j (mt, pt, ft)))) (pcr (pcc ν S sc ch mo cs pr fa q) 43 mt' ct' pt' ft' qt')) →
    zW G 5 M_Wb_breaks 57 [.ref 4, .int (nI g), .int (nI w), .int (nI mt)] [] n u (pcr (pcc ν S sc ch mo cs pr fa q) 43 mt ct pt ft qt) n u Φ
  | 0, mt, ct, pt, ft, qt, e, hm, hx, K => by
    have hi3 := hi.2.2.2.2.1
    unfold isOb at hob
    refine z_il3 (pc' := 58) 29 rfl rfl ?_
    refine z_al0 (pc' := 59) 30 rfl rfl ?_
    refine z_getf (pc' := 62) 31 rfl rfl f_Wb_10_11 (by first | exact pcr_0 | exact pcr_1 | exact pcr_2 | exact pcr_3 | (rw [pcr_o (by decide)]; first | exact pcc_5 | exact pcc_6 | exact pcc_7 | exact pcc_8 | exact pcc_9 | exact pcc_10 | exact pcc_11 | exact pcc_12 | exact pcc_13 | exact pcc_14 | exact pcc_15 | exact pcc_22 | (rw [pcc_o (by decide)]; assumption))) (by rfl) ?_
    refine z_getf (pc' := 65) 32 rfl rfl f_Wb_149_3 (by first | exact pcr_0 | exact pcr_1 | exact pcr_2 | exact pcr_3 | (rw [pcr_o (by decide)]; first | exact pcc_5 | exact pcc_6 | exact pcc_7 | exact pcc_8 | exact pcc_9 | exact pcc_10 | exact pcc_11 | exact pcc_12 | exact pcc_13 | exact pcc_14 | exact pcc_15 | exact pcc_22 | (rw [pcc_o (by decide)]; assumption))) (by rfl) ?_
    first | refine z_icmp_geN (pc' := 68) 33 rfl rfl (tgt := 102) rfl (by omega) (by omega) (fun h65 => ?_) (fun h65 => ?_) | refine z_icmp_ge (pc' := 68) 33 rfl rfl (tgt := 102) rfl (fun h65 => ?_) (fun h65 => ?_)
    · refine z_bipush (v := (-3)) (by decide) (pc' := 104) 52 rfl rfl ?_
      exact z_ireturn 53 rfl rfl (by first | rfl | exact zbo_nar) rfl rfl (by exact K _ _ _ _ _)
    · exfalso; omega
  | j + 1, mt, ct, pt, ft, qt, e, hm, hx, K => by
    have hi3 := hi.2.2.2.2.1
    have hx9 := mon_ok (D := D) (t := mt) (act := 0) hi hx
    have hb9 := (hx9 g).1
    have hob0 := hob
    unfold isOb at hob
    refine z_il3 (pc' := 58) 29 rfl rfl ?_
    refine z_al0 (pc' := 59) 30 rfl rfl ?_
    refine z_getf (pc' := 62) 31 rfl rfl f_Wb_10_11 (by first | exact pcr_0 | exact pcr_1 | exact pcr_2 | exact pcr_3 | (rw [pcr_o (by decide)]; first | exact pcc_5 | exact pcc_6 | exact pcc_7 | exact pcc_8 | exact pcc_9 | exact pcc_10 | exact pcc_11 | exact pcc_12 | exact pcc_13 | exact pcc_14 | exact pcc_15 | exact pcc_22 | (rw [pcc_o (by decide)]; assumption))) (by rfl) ?_
    refine z_getf (pc' := 65) 32 rfl rfl f_Wb_149_3 (by first | exact pcr_0 | exact pcr_1 | exact pcr_2 | exact pcr_3 | (rw [pcr_o (by decide)]; first | exact pcc_5 | exact pcc_6 | exact pcc_7 | exact pcc_8 | exact pcc_9 | exact pcc_10 | exact pcc_11 | exact pcc_12 | exact pcc_13 | exact pcc_14 | exact pcc_15 | exact pcc_22 | (rw [pcc_o (by decide)]; assumption))) (by rfl) ?_
    first | refine z_icmp_geN (pc' := 68) 33 rfl rfl (tgt := 102) rfl (by omega) (by omega) (fun h65 => ?_) (fun h65 => ?_) | refine z_icmp_ge (pc' := 68) 33 rfl rfl (tgt := 102) rfl (fun h65 => ?_) (fun h65 => ?_)
    · exfalso; omega
    · refine z_al0 (pc' := 69) 34 rfl rfl ?_
      refine z_getf (pc' := 72) 35 rfl rfl f_Wb_22_11 (by first | exact pcr_0 | exact pcr_1 | exact pcr_2 | exact pcr_3 | (rw [pcr_o (by decide)]; first | exact pcc_5 | exact pcc_6 | exact pcc_7 | exact pcc_8 | exact pcc_9 | exact pcc_10 | exact pcc_11 | exact pcc_12 | exact pcc_13 | exact pcc_14 | exact pcc_15 | exact pcc_22 | (rw [pcc_o (by decide)]; assumption))) (by rfl) ?_
      refine z_al0 (pc' := 73) 36 rfl rfl ?_
      refine z_getf (pc' := 76) 37 rfl rfl f_Wb_10_11 (by first | exact pcr_0 | exact pcr_1 | exact pcr_2 | exact pcr_3 | (rw [pcr_o (by decide)]; first | exact pcc_5 | exact pcc_6 | exact pcc_7 | exact pcc_8 | exact pcc_9 | exact pcc_10 | exact pcc_11 | exact pcc_12 | exact pcc_13 | exact pcc_14 | exact pcc_15 | exact pcc_22 | (rw [pcc_o (by decide)]; assumption))) (by rfl) ?_
      refine z_iconst (v := nI 0) (by decide) (pc' := 77) 38 rfl rfl ?_
      refine z_callVX1 (pc' := 80) 39 rfl rfl k_Wb_181 (by first | exact pcr_0 | exact pcr_1 | exact pcr_2 | exact pcr_3 | (rw [pcr_o (by decide)]; first | exact pcc_5 | exact pcc_6 | exact pcc_7 | exact pcc_8 | exact pcc_9 | exact pcc_10 | exact pcc_11 | exact pcc_12 | exact pcc_13 | exact pcc_14 | exact pcc_15 | exact pcc_22 | (rw [pcc_o (by decide)]; assumption))) (c_Cr_passes (act := 0) isCo_pcc hi (Or.inr (by decide)) (isBk_pcc hbk) hD hm (by decide) hx) (by decide) (Nat.le_refl _) (Nat.le_refl _) rfl rfl (Nat.le_of_ble_eq_true rfl) (fun q77 => ?_)
      refine z_pop rfl (pc' := 81) 40 rfl rfl ?_
      refine z_al0 (pc' := 82) 41 rfl rfl ?_
      refine z_getf (pc' := 85) 42 rfl rfl f_Wb_22_11 (by first | exact pcr_0 | exact pcr_1 | exact pcr_2 | exact pcr_3 | (rw [pcr_o (by decide)]; first | exact pcc_5 | exact pcc_6 | exact pcc_7 | exact pcc_8 | exact pcc_9 | exact pcc_10 | exact pcc_11 | exact pcc_12 | exact pcc_13 | exact pcc_14 | exact pcc_15 | exact pcc_22 | (rw [pcc_o (by decide)]; assumption))) (by rfl) ?_
      refine z_getr (pc' := 88) 43 rfl rfl f_Wb_100_4 (by first | exact pcr_0 | exact pcr_1 | exact pcr_2 | exact pcr_3 | (rw [pcr_o (by decide)]; first | exact pcc_5 | exact pcc_6 | exact pcc_7 | exact pcc_8 | exact pcc_9 | exact pcc_10 | exact pcc_11 | exact pcc_12 | exact pcc_13 | exact pcc_14 | exact pcc_15 | exact pcc_22 | (rw [pcc_o (by decide)]; assumption))) (by rfl) ?_
      refine z_il1 (pc' := 89) 44 rfl rfl ?_
      refine z_iald (pc' := 90) 45 rfl rfl (by first | exact pcr_0 | exact pcr_1 | exact pcr_2 | exact pcr_3 | (rw [pcr_o (by decide)]; first | exact pcc_5 | exact pcc_6 | exact pcc_7 | exact pcc_8 | exact pcc_9 | exact pcc_10 | exact pcc_11 | exact pcc_12 | exact pcc_13 | exact pcc_14 | exact pcc_15 | exact pcc_22 | (rw [pcc_o (by decide)]; assumption))) (by omega) (by decide) ?_
      refine z_il2 (pc' := 91) 46 rfl rfl ?_
      first | refine z_icmp_eqN (pc' := 94) 47 rfl rfl (tgt := 96) rfl (by omega) (by omega) (fun h91 => ?_) (fun h91 => ?_) | refine z_icmp_eq (pc' := 94) 47 rfl rfl (tgt := 96) rfl (fun h91 => ?_) (fun h91 => ?_)
      · first | refine z_inc3N rfl rfl (pc' := 99) 50 rfl rfl ?_ | refine z_inc3 rfl rfl rfl (pc' := 99) 50 rfl rfl ?_
        refine z_goto 51 rfl (tgt := 57) rfl ?_
        have e9 : bkA S D g w (j + 1) (mt, pt, ft) = bkA S D g w j (stp S D 0 (mt, pt, ft)) := by rw [bkA, if_pos (show  (stp S D 0 (mt, pt, ft)).2.1 g = w from h91)]
        rw [e9] at K
        exact l_Wb_breaks hob0 hi hbk hD hg hw j (mt + 1) _ _ _ _ (by omega) (by omega) hx9 K
      · have e9 : bkA S D g w (j + 1) (mt, pt, ft) = nI mt := by rw [bkA, if_neg (show ¬ (stp S D 0 (mt, pt, ft)).2.1 g = w from h91)]
        rw [e9] at K
        refine z_il3 (pc' := 95) 48 rfl rfl ?_
        exact z_ireturn 49 rfl rfl (by first | rfl | exact zbo_nar) rfl rfl (by exact K _ _ _ _ _)
set_option maxHeartbeats 4000000 in
set_option maxRecDepth 100000 in
theorem c_Wb_breaks {G : zG} {n u : Nat} {μ : Nat → va_E} {κ : zκ} {kp : Int32} {ac : Value} (h : cst μ κ) (hob : isOb μ kp ac) (htr : isTr μ) (x : Int32) :
    zMet G 5 M_Wb_breaks [.ref 4, .int x] n u μ n u (cKt μ (f_breaks κ x)) := by
  obtain ⟨S, mo, pr, fa, sc, ch, rc, D⟩ := κ
  have hst := h
  obtain ⟨h1, ⟨cs, q, h2⟩, ⟨β, its, h3, h3a, h3b⟩, ⟨c23, h4⟩, h5⟩ := h
  have hk5 := h5
  obtain ⟨hi, hx, hmo, hrc⟩ := h5
  have hi0 := hi.1
  have hi1 := hi.2.1
  have hi2 := hi.2.2.1
  have hi3 := hi.2.2.2.2.1
  have hm16 : mo ≤ 16 := by omega
  refine z_start (lv := [.ref 4, .int x, .retAddr 0, .retAddr 0]) K_Wb_breaks rfl rfl (Nat.le_refl _) (Nat.le_refl _) (Nat.le_of_ble_eq_true rfl) rfl ?_
  have hob0 := hob
  unfold isOb at hob
  obtain ⟨mt, ct, pt, ft, qt, htr⟩ := htr
  refine z_mu (show μ = pcr (pcc μ S sc ch mo cs pr fa q) 43 mt ct pt ft qt by rw [pcc_id h1 h2, pcr_id htr]) ?_
  refine z_al0 (pc' := 1) 0 rfl rfl ?_
  refine z_getf (pc' := 4) 1 rfl rfl f_Wb_10_11 (by first | exact pcr_0 | exact pcr_1 | exact pcr_2 | exact pcr_3 | (rw [pcr_o (by decide)]; first | exact pcc_5 | exact pcc_6 | exact pcc_7 | exact pcc_8 | exact pcc_9 | exact pcc_10 | exact pcc_11 | exact pcc_12 | exact pcc_13 | exact pcc_14 | exact pcc_15 | exact pcc_22 | (rw [pcc_o (by decide)]; assumption))) (by rfl) ?_
  refine z_il1 (pc' := 5) 2 rfl rfl ?_
  refine z_callV1 (pc' := 8) 3 rfl rfl k_Wb_84 (by first | exact pcr_0 | exact pcr_1 | exact pcr_2 | exact pcr_3 | (rw [pcr_o (by decide)]; first | exact pcc_5 | exact pcc_6 | exact pcc_7 | exact pcc_8 | exact pcc_9 | exact pcc_10 | exact pcc_11 | exact pcc_12 | exact pcc_13 | exact pcc_14 | exact pcc_15 | exact pcc_22 | (rw [pcc_o (by decide)]; assumption))) (c_Co_hasGirl isCo_pcr43 hi _) (by decide) (Nat.le_refl _) (Nat.le_refl _) rfl rfl (Nat.le_of_ble_eq_true rfl) ?_
  first | refine z_if_neB (pc' := 11) 4 rfl rfl (tgt := 13) rfl (fun h8 => ?_) (fun h8 => ?_) | refine z_if_neN (pc' := 11) 4 rfl rfl (tgt := 13) rfl (by omega) (fun h8 => ?_) (fun h8 => ?_) | refine z_if_ne (pc' := 11) 4 rfl rfl (tgt := 13) rfl (fun h8 => ?_) (fun h8 => ?_)
  · obtain ⟨g, hg, rfl⟩ := z_in h8 (by omega)
    have hw6 := (hx g).1
    refine z_al0 (pc' := 14) 7 rfl rfl ?_
    refine z_getf (pc' := 17) 8 rfl rfl f_Wb_10_11 (by first | exact pcr_0 | exact pcr_1 | exact pcr_2 | exact pcr_3 | (rw [pcr_o (by decide)]; first | exact pcc_5 | exact pcc_6 | exact pcc_7 | exact pcc_8 | exact pcc_9 | exact pcc_10 | exact pcc_11 | exact pcc_12 | exact pcc_13 | exact pcc_14 | exact pcc_15 | exact pcc_22 | (rw [pcc_o (by decide)]; assumption))) (by rfl) ?_
    refine z_getr (pc' := 20) 9 rfl rfl f_Wb_97_3 (by first | exact pcr_0 | exact pcr_1 | exact pcr_2 | exact pcr_3 | (rw [pcr_o (by decide)]; first | exact pcc_5 | exact pcc_6 | exact pcc_7 | exact pcc_8 | exact pcc_9 | exact pcc_10 | exact pcc_11 | exact pcc_12 | exact pcc_13 | exact pcc_14 | exact pcc_15 | exact pcc_22 | (rw [pcc_o (by decide)]; assumption))) (by rfl) ?_
    refine z_getr (pc' := 23) 10 rfl rfl f_Wb_100_4 (by first | exact pcr_0 | exact pcr_1 | exact pcr_2 | exact pcr_3 | (rw [pcr_o (by decide)]; first | exact pcc_5 | exact pcc_6 | exact pcc_7 | exact pcc_8 | exact pcc_9 | exact pcc_10 | exact pcc_11 | exact pcc_12 | exact pcc_13 | exact pcc_14 | exact pcc_15 | exact pcc_22 | (rw [pcc_o (by decide)]; assumption))) (by rfl) ?_
    refine z_il1 (pc' := 24) 11 rfl rfl ?_
    refine z_iald (pc' := 25) 12 rfl rfl (by first | exact pcr_0 | exact pcr_1 | exact pcr_2 | exact pcr_3 | (rw [pcr_o (by decide)]; first | exact pcc_5 | exact pcc_6 | exact pcc_7 | exact pcc_8 | exact pcc_9 | exact pcc_10 | exact pcc_11 | exact pcc_12 | exact pcc_13 | exact pcc_14 | exact pcc_15 | exact pcc_22 | (rw [pcc_o (by decide)]; assumption))) (by omega) (by decide) ?_
    refine z_is2 rfl rfl (pc' := 26) 13 rfl rfl ?_
    refine z_il2 (pc' := 27) 14 rfl rfl ?_
    refine z_bipush (v := nI 6) (by decide) (pc' := 29) 15 rfl rfl ?_
    first | refine z_icmp_neN (pc' := 32) 16 rfl rfl (tgt := 35) rfl (by omega) (by omega) (fun h29 => ?_) (fun h29 => ?_) | refine z_icmp_ne (pc' := 32) 16 rfl rfl (tgt := 35) rfl (fun h29 => ?_) (fun h29 => ?_)
    · refine z_al0 (pc' := 36) 19 rfl rfl ?_
      refine z_getf (pc' := 39) 20 rfl rfl f_Wb_22_11 (by first | exact pcr_0 | exact pcr_1 | exact pcr_2 | exact pcr_3 | (rw [pcr_o (by decide)]; first | exact pcc_5 | exact pcc_6 | exact pcc_7 | exact pcc_8 | exact pcc_9 | exact pcc_10 | exact pcc_11 | exact pcc_12 | exact pcc_13 | exact pcc_14 | exact pcc_15 | exact pcc_22 | (rw [pcc_o (by decide)]; assumption))) (by rfl) ?_
      refine z_al0 (pc' := 40) 21 rfl rfl ?_
      refine z_getf (pc' := 43) 22 rfl rfl f_Wb_10_11 (by first | exact pcr_0 | exact pcr_1 | exact pcr_2 | exact pcr_3 | (rw [pcr_o (by decide)]; first | exact pcc_5 | exact pcc_6 | exact pcc_7 | exact pcc_8 | exact pcc_9 | exact pcc_10 | exact pcc_11 | exact pcc_12 | exact pcc_13 | exact pcc_14 | exact pcc_15 | exact pcc_22 | (rw [pcc_o (by decide)]; assumption))) (by rfl) ?_
      refine z_getr (pc' := 46) 23 rfl rfl f_Wb_97_3 (by first | exact pcr_0 | exact pcr_1 | exact pcr_2 | exact pcr_3 | (rw [pcr_o (by decide)]; first | exact pcc_5 | exact pcc_6 | exact pcc_7 | exact pcc_8 | exact pcc_9 | exact pcc_10 | exact pcc_11 | exact pcc_12 | exact pcc_13 | exact pcc_14 | exact pcc_15 | exact pcc_22 | (rw [pcc_o (by decide)]; assumption))) (by rfl) ?_
      refine z_callV0 (pc' := 49) 24 rfl rfl k_Wb_184 (by first | exact pcr_0 | exact pcr_1 | exact pcr_2 | exact pcr_3 | (rw [pcr_o (by decide)]; first | exact pcc_5 | exact pcc_6 | exact pcc_7 | exact pcc_8 | exact pcc_9 | exact pcc_10 | exact pcc_11 | exact pcc_12 | exact pcc_13 | exact pcc_14 | exact pcc_15 | exact pcc_22 | (rw [pcc_o (by decide)]; assumption))) (c_Cr_copyFrom isCr_pcc (Or.inl (by decide))) (by decide) (Nat.le_refl _) (Nat.le_refl _) rfl rfl (Nat.le_of_ble_eq_true rfl) ?_
      refine z_al0 (pc' := 50) 25 rfl rfl ?_
      refine z_getf (pc' := 53) 26 rfl rfl f_Wb_22_11 (by first | exact pcr_0 | exact pcr_1 | exact pcr_2 | exact pcr_3 | (rw [pcr_o (by decide)]; first | exact pcc_5 | exact pcc_6 | exact pcc_7 | exact pcc_8 | exact pcc_9 | exact pcc_10 | exact pcc_11 | exact pcc_12 | exact pcc_13 | exact pcc_14 | exact pcc_15 | exact pcc_22 | (rw [pcc_o (by decide)]; assumption))) (by rfl) ?_
      refine z_getf (pc' := 56) 27 rfl rfl f_Wb_135_4 (by first | exact pcr_0 | exact pcr_1 | exact pcr_2 | exact pcr_3 | (rw [pcr_o (by decide)]; first | exact pcc_5 | exact pcc_6 | exact pcc_7 | exact pcc_8 | exact pcc_9 | exact pcc_10 | exact pcc_11 | exact pcc_12 | exact pcc_13 | exact pcc_14 | exact pcc_15 | exact pcc_22 | (rw [pcc_o (by decide)]; assumption))) (by rfl) ?_
      refine z_is3 rfl rfl (pc' := 57) 28 rfl rfl ?_
      refine l_Wb_breaks hob0 hi h3 h3a (by omega) hw6 _ _ _ _ _ _ rfl hm16 hx (fun mt1 ct1 pt1 ft1 qt1 => ?_)
      show cKt μ _ _ _; rw [f_breaks, if_pos h8, tN_n (by omega), if_neg h29]; exact cKt_of hst rfl rfl (hk5)
    · refine z_bipush (v := (-3)) (by decide) (pc' := 34) 17 rfl rfl ?_
      exact z_ireturn 18 rfl rfl (by first | rfl | exact zbo_nar) rfl rfl (by show cKt μ _ _ _; rw [f_breaks, if_pos h8, tN_n (by omega), if_pos h29]; exact cKt_of hst rfl rfl (hk5))
  · refine z_iconst (v := (-1)) (by decide) (pc' := 12) 5 rfl rfl ?_
    exact z_ireturn 6 rfl rfl (by first | rfl | exact zbo_nar) rfl rfl (by show cKt μ _ _ _; rw [f_breaks, if_neg h8]; exact cKt_of hst rfl rfl (hk5))
set_option maxHeartbeats 4000000 in
set_option maxRecDepth 100000 in
theorem l_Mo_breaks {G : zG} {n u : Nat} {Φ : zP} {ν : Nat → va_E} {s : Nat → Int32} {S : Nat → Nat → Nat} {ch : Int32} {rc : Nat} {ρ w : Nat → Int32} {D : zD6} (hi : iS S) (hD : dzM ρ rc D) {g w0 : Nat} (hg : g < 6) (hw : w0 < 6) : ∀ j mo pr fa sc (q : Nat → Int32) v, j = S 0 3 - mo → mo ≤ 16 → iX S pr fa →
    (∀ mo' pr' fa' sc' (q' : Nat → Int32) v', zW G 6 M_Mo_breaks 72 [.ref 88, .int (nI g), .int (nI w0), .int (bkA S D g w0 j (mo, pr, fa))] [] n u (pm (zu (zu ν 91 (.inl (0, 618, .inl w))) 93 (.inl (1, 100, .inl q'))) (un s 14 v') (mk S mo' pr' fa' sc' ch rc ρ)) n u Φ) →
    zW G 6 M_Mo_breaks 24 [.ref 88, .int (nI g), .int (nI w0), .int (-3)] [] n u (pm (zu (zu ν 91 (.inl (0, 618, .inl w))) 93 (.inl (1, 100, .inl q))) (un s 14 v) (mk S mo pr fa sc ch rc ρ)) n u Φ
  | 0, mo, pr, fa, sc, q, v, e, hm, hx, K => by
    have hi3 := hi.2.2.2.2.1
    refine z_il2 (pc' := 25) 15 rfl rfl ?_
    refine z_if_lt_f (pc' := 28) 16 rfl rfl (tgt := 72) rfl (nI_pos (by omega)) ?_
    refine z_il3 (pc' := 29) 17 rfl rfl ?_
    refine z_if_ge_f (pc' := 32) 18 rfl rfl (tgt := 72) rfl (by decide) ?_
    refine z_al0 (pc' := 33) 19 rfl rfl ?_
    refine z_callV1 (pc' := 36) 20 rfl rfl k_Mo_124 (by first | exact pm_f | exact pm_1 | (rw [pm_o (by decide)]; first | exact zu_s | (rw [zu_n (by decide)]; first | exact zu_s | (rw [zu_n (by decide)]; assumption)))) (c_Mo_isOver hi hm) (by decide) (Nat.le_refl _) (Nat.le_refl _) rfl rfl (Nat.le_of_ble_eq_true rfl) ?_
    first | refine z_if_neB (pc' := 39) 21 rfl rfl (tgt := 72) rfl (fun h36 => ?_) (fun h36 => ?_) | refine z_if_neN (pc' := 39) 21 rfl rfl (tgt := 72) rfl (by omega) (fun h36 => ?_) (fun h36 => ?_) | refine z_if_ne (pc' := 39) 21 rfl rfl (tgt := 72) rfl (fun h36 => ?_) (fun h36 => ?_)
    · exact K _ _ _ _ _ _
    · exfalso; omega
  | j + 1, mo, pr, fa, sc, q, v, e, hm, hx, K => by
    have hi3 := hi.2.2.2.2.1
    have hx9 := mon_ok (D := D) (t := mo) (act := 0) hi hx
    have hb9 := (hx9 g).1
    refine z_il2 (pc' := 25) 15 rfl rfl ?_
    refine z_if_lt_f (pc' := 28) 16 rfl rfl (tgt := 72) rfl (nI_pos (by omega)) ?_
    refine z_il3 (pc' := 29) 17 rfl rfl ?_
    refine z_if_ge_f (pc' := 32) 18 rfl rfl (tgt := 72) rfl (by decide) ?_
    refine z_al0 (pc' := 33) 19 rfl rfl ?_
    refine z_callV1 (pc' := 36) 20 rfl rfl k_Mo_124 (by first | exact pm_f | exact pm_1 | (rw [pm_o (by decide)]; first | exact zu_s | (rw [zu_n (by decide)]; first | exact zu_s | (rw [zu_n (by decide)]; assumption)))) (c_Mo_isOver hi hm) (by decide) (Nat.le_refl _) (Nat.le_refl _) rfl rfl (Nat.le_of_ble_eq_true rfl) ?_
    first | refine z_if_neB (pc' := 39) 21 rfl rfl (tgt := 72) rfl (fun h36 => ?_) (fun h36 => ?_) | refine z_if_neN (pc' := 39) 21 rfl rfl (tgt := 72) rfl (by omega) (fun h36 => ?_) (fun h36 => ?_) | refine z_if_ne (pc' := 39) 21 rfl rfl (tgt := 72) rfl (fun h36 => ?_) (fun h36 => ?_)
    · exfalso; omega
    · refine z_al0 (pc' := 40) 22 rfl rfl ?_
      refine z_iconst (v := (-1)) (by decide) (pc' := 41) 23 rfl rfl ?_
      refine z_callVX1 (pc' := 44) 24 rfl rfl k_Mo_227 (by first | exact pm_f | exact pm_1 | (rw [pm_o (by decide)]; first | exact zu_s | (rw [zu_n (by decide)]; first | exact zu_s | (rw [zu_n (by decide)]; assumption)))) (c_Mo_goes (act := 0) hi hD hm (by decide) hx) (by decide) (Nat.le_refl _) (Nat.le_refl _) rfl rfl (Nat.le_of_ble_eq_true rfl) (fun q41 => ?_)
      refine z_pop rfl (pc' := 45) 25 rfl rfl ?_
      refine z_al0 (pc' := 46) 26 rfl rfl ?_
      refine z_il1 (pc' := 47) 27 rfl rfl ?_
      refine z_iconst (v := nI 3) (by decide) (pc' := 48) 28 rfl rfl ?_
      refine z_callV1 (pc' := 51) 29 rfl rfl k_Mo_75 (by first | exact pm_f | exact pm_1 | (rw [pm_o (by decide)]; first | exact zu_s | (rw [zu_n (by decide)]; first | exact zu_s | (rw [zu_n (by decide)]; assumption)))) (c_Mo_of3 hg) (by decide) (Nat.le_refl _) (Nat.le_refl _) rfl rfl (Nat.le_of_ble_eq_true rfl) ?_
      refine z_il2 (pc' := 52) 30 rfl rfl ?_
      first | refine z_icmp_neH (pc' := 55) 31 rfl rfl (tgt := 60) rfl (by omega) (by omega) (fun h52 => ?_) (fun h52 => ?_) | refine z_icmp_neN (pc' := 55) 31 rfl rfl (tgt := 60) rfl (by omega) (by omega) (fun h52 => ?_) (fun h52 => ?_) | refine z_icmp_ne (pc' := 55) 31 rfl rfl (tgt := 60) rfl (fun h52 => ?_) (fun h52 => ?_)
      · refine z_al0 (pc' := 61) 34 rfl rfl ?_
        refine z_getf (pc' := 64) 35 rfl rfl f_Mo_9_12 (by first | exact pm_f | exact pm_1 | (rw [pm_o (by decide)]; first | exact zu_s | (rw [zu_n (by decide)]; first | exact zu_s | (rw [zu_n (by decide)]; assumption)))) (by rfl) ?_
        refine z_iconst (v := nI 1) (by decide) (pc' := 65) 36 rfl rfl ?_
        refine z_iald (pc' := 66) 37 rfl rfl (by first | exact pm_f | exact pm_1 | (rw [pm_o (by decide)]; first | exact zu_s | (rw [zu_n (by decide)]; first | exact zu_s | (rw [zu_n (by decide)]; assumption)))) (by omega) (by decide) ?_
        rw [mk_1]
        refine z_iconst (v := nI 1) (by decide) (pc' := 67) 38 rfl rfl ?_
        first | refine z_isubN (by omega) (pc' := 68) 39 rfl rfl ?_ | refine z_isub (pc' := 68) 39 rfl rfl ?_
        rw [Nat.add_sub_cancel]
        refine z_is3 rfl rfl (pc' := 69) 40 rfl rfl ?_
        refine z_goto 41 rfl (tgt := 24) rfl ?_
        rw [un_un]
        refine z_mu rfl ?_
        refine z_il2 (pc' := 25) 15 rfl rfl ?_
        refine z_if_lt_f (pc' := 28) 16 rfl rfl (tgt := 72) rfl (nI_pos (by omega)) ?_
        refine z_il3 (pc' := 29) 17 rfl rfl ?_
        refine z_if_ge_t 18 rfl (tgt := 72) rfl (Int32.not_lt.mp (nI_pos (by omega))) ?_
        have e9 : bkA S D g w0 (j + 1) (mo, pr, fa) = nI mo := by rw [bkA, if_neg (show ¬ (stp S D 0 (mo, pr, fa)).2.1 g = w0 from h52)]
        rw [e9] at K
        exact K _ _ _ _ _ _
      · refine z_bipush (v := (-3)) (by decide) (pc' := 57) 32 rfl rfl ?_
        refine z_goto 33 rfl (tgt := 68) rfl ?_
        refine z_is3 rfl rfl (pc' := 69) 40 rfl rfl ?_
        refine z_goto 41 rfl (tgt := 24) rfl ?_
        rw [un_un]
        have e9 : bkA S D g w0 (j + 1) (mo, pr, fa) = bkA S D g w0 j (stp S D 0 (mo, pr, fa)) := by rw [bkA, if_pos (show  (stp S D 0 (mo, pr, fa)).2.1 g = w0 from h52)]
        rw [e9] at K
        exact l_Mo_breaks hi hD hg hw j _ _ _ _ _ _ (by omega) (by omega) hx9 K
set_option maxHeartbeats 4000000 in
set_option maxRecDepth 100000 in
theorem c_Mo_breaks {G : zG} {n u : Nat} {μ : Nat → va_E} {κ : zκ} {s : Nat → Int32} (h : mst μ s κ) (x : Int32) :
    zMet G 6 M_Mo_breaks [.ref 88, .int x] n u μ n u (mK μ s (f_breaks κ x)) := by
  obtain ⟨S, mo, pr, fa, sc, ch, rc, D⟩ := κ
  have hst := h
  obtain ⟨⟨ρ, h1, hD⟩, h2, ⟨q93, h93⟩, ⟨q91, h91⟩, ⟨q94, h94⟩, ⟨q95, h95⟩, ⟨q96, h96⟩, ⟨q97, h97⟩, h5⟩ := h
  have hk5 := h5
  obtain ⟨hi, hx, hmo, hrc⟩ := h5
  have hi0 := hi.1
  have hi1 := hi.2.1
  have hi2 := hi.2.2.1
  have hi3 := hi.2.2.2.2.1
  have hm16 : mo ≤ 16 := by omega
  refine z_start (lv := [.ref 88, .int x, .retAddr 0, .retAddr 0]) K_Mo_breaks rfl rfl (Nat.le_refl _) (Nat.le_refl _) (Nat.le_of_ble_eq_true rfl) rfl ?_
  refine z_mu (show μ = pm (zu (zu μ 91 (.inl (0, 618, .inl q91))) 93 (.inl (1, 100, .inl q93))) s (mk S mo pr fa sc ch rc ρ) by rw [zu_id h91, zu_id h93, pm_id h2 h1]) ?_
  refine z_al0 (pc' := 1) 0 rfl rfl ?_
  refine z_il1 (pc' := 2) 1 rfl rfl ?_
  refine z_callV1 (pc' := 5) 2 rfl rfl k_Mo_92 (by first | exact pm_f | exact pm_1 | (rw [pm_o (by decide)]; first | exact zu_s | (rw [zu_n (by decide)]; first | exact zu_s | (rw [zu_n (by decide)]; assumption)))) (c_Mo_isGirl hi _) (by decide) (Nat.le_refl _) (Nat.le_refl _) rfl rfl (Nat.le_of_ble_eq_true rfl) ?_
  first | refine z_if_neB (pc' := 8) 3 rfl rfl (tgt := 10) rfl (fun h5 => ?_) (fun h5 => ?_) | refine z_if_neN (pc' := 8) 3 rfl rfl (tgt := 10) rfl (by omega) (fun h5 => ?_) (fun h5 => ?_) | refine z_if_ne (pc' := 8) 3 rfl rfl (tgt := 10) rfl (fun h5 => ?_) (fun h5 => ?_)
  · obtain ⟨g, hg, rfl⟩ := z_in h5 (by omega)
    have hw6 := (hx g).1
    refine z_al0 (pc' := 11) 6 rfl rfl ?_
    refine z_il1 (pc' := 12) 7 rfl rfl ?_
    refine z_iconst (v := nI 3) (by decide) (pc' := 13) 8 rfl rfl ?_
    refine z_callV1 (pc' := 16) 9 rfl rfl k_Mo_75 (by first | exact pm_f | exact pm_1 | (rw [pm_o (by decide)]; first | exact zu_s | (rw [zu_n (by decide)]; first | exact zu_s | (rw [zu_n (by decide)]; assumption)))) (c_Mo_of3 (by omega)) (by decide) (Nat.le_refl _) (Nat.le_refl _) rfl rfl (Nat.le_of_ble_eq_true rfl) ?_
    refine z_is2 rfl rfl (pc' := 17) 10 rfl rfl ?_
    refine z_al0 (pc' := 18) 11 rfl rfl ?_
    refine z_callV0 (pc' := 21) 12 rfl rfl k_Mo_194 (by first | exact pm_f | exact pm_1 | (rw [pm_o (by decide)]; first | exact zu_s | (rw [zu_n (by decide)]; first | exact zu_s | (rw [zu_n (by decide)]; assumption)))) (c_Mo_thinks) (by decide) (Nat.le_refl _) (Nat.le_refl _) rfl rfl (Nat.le_of_ble_eq_true rfl) ?_
    refine z_bipush (v := (-3)) (by decide) (pc' := 23) 13 rfl rfl ?_
    refine z_is3 rfl rfl (pc' := 24) 14 rfl rfl ?_
    by_cases h6 : pr g = 6
    · rw [h6]
      refine z_il2 (pc' := 25) 15 rfl rfl ?_
      refine z_if_lt_t 16 rfl (tgt := 72) rfl (by decide) ?_
      refine z_al0 (pc' := 73) 42 rfl rfl ?_
      refine z_callV0 (pc' := 76) 43 rfl rfl k_Mo_200 (by first | exact pm_f | exact pm_1 | (rw [pm_o (by decide)]; first | exact zu_s | (rw [zu_n (by decide)]; first | exact zu_s | (rw [zu_n (by decide)]; assumption)))) (c_Mo_putsBack) (by decide) (Nat.le_refl _) (Nat.le_refl _) rfl rfl (Nat.le_of_ble_eq_true rfl) ?_
      refine z_il3 (pc' := 77) 44 rfl rfl ?_
      exact z_ireturn 45 rfl rfl (by first | rfl | exact zbo_nar) rfl rfl (by show mK μ s _ _ _; rw [f_breaks, if_pos h5, tN_n (by omega), if_pos h6]; exact mK_of3 hst (sEq_r) hD (hk5))
    · rw [hasI_n h6]
      refine z_mu (show _ = pm (zu (zu μ 91 (.inl (0, 618, .inl (mk S mo pr fa sc ch rc ρ)))) 93 (.inl (1, 100, .inl q93))) (un s 14 (s 14)) (mk S mo pr fa sc ch rc ρ) by rw [un_id]) ?_
      refine l_Mo_breaks hi hD (by omega) (by omega) _ _ _ _ _ _ _ rfl hm16 hx (fun mo1 pr1 fa1 sc1 q1 v1 => ?_)
      refine z_al0 (pc' := 73) 42 rfl rfl ?_
      refine z_callV0 (pc' := 76) 43 rfl rfl k_Mo_200 (by first | exact pm_f | exact pm_1 | (rw [pm_o (by decide)]; first | exact zu_s | (rw [zu_n (by decide)]; first | exact zu_s | (rw [zu_n (by decide)]; assumption)))) (c_Mo_putsBack) (by decide) (Nat.le_refl _) (Nat.le_refl _) rfl rfl (Nat.le_of_ble_eq_true rfl) ?_
      refine z_il3 (pc' := 77) 44 rfl rfl ?_
      exact z_ireturn 45 rfl rfl (by first | rfl | exact zbo_nar) rfl rfl (by show mK μ s _ _ _; rw [f_breaks, if_pos h5, tN_n (by omega), if_neg h6]; exact mK_of3 hst (sEq14) hD (hk5))
  · refine z_iconst (v := (-1)) (by decide) (pc' := 9) 4 rfl rfl ?_
    exact z_ireturn 5 rfl rfl (by first | rfl | exact zbo_nar) rfl rfl (by show mK μ s _ _ _; rw [f_breaks, if_neg h5]; exact mK_of3 hst (sEq_r) hD (hk5))
set_option maxHeartbeats 4000000 in
set_option maxRecDepth 100000 in
theorem l_Wb_windFor {G : zG} {n u : Nat} {Φ : zP} {ν : Nat → va_E} {S : Nat → Nat → Nat} {sc ch : Int32} {mo cs : Nat} {pr fa q : Nat → Nat} {kp : Int32} {ac : Value} {β : Nat → Nat → Nat} {its : Nat → zI} {D : zD6} (hob : isOb ν kp ac) (hi : iS S) (hbk : isBk ν 17 β) (hD : dzB β its D) {g : Nat} (hg : g < S 0 0) (hm : mo ≤ 16) (hx : iX S pr fa) : ∀ j k mt ct pt ft (qt : Nat → Nat) b x, k + j = S 0 1 + 1 → b = (bwN S D (mo, pr, fa) g k).1 → x = hdI (bwN S D (mo, pr, fa) g k).2 →
    (∀ mt' ct' pt' ft' qt', Φ (some (.int (nI (bwN S D (mo, pr, fa) g (S 0 1 + 1)).1))) (pcr (pcc ν S sc ch mo cs pr fa q) 43 mt' ct' pt' ft' qt')) →
    zW G 6 M_Wb_windFor 21 [.ref 4, .int (nI g), .int (nI b), .int x, .int (nI k), .retAddr 0, .retAddr 0] [] n u (pcr (pcc ν S sc ch mo cs pr fa q) 43 mt ct pt ft qt) n u Φ
  | 0, k, mt, ct, pt, ft, qt, b, x, e, eb, ex, K => by
    have hi1 := hi.2.1
    obtain rfl : k = S 0 1 + 1 := by omega
    subst eb
    unfold isOb at hob
    refine z_il4 (pc' := 23) 13 rfl rfl ?_
    refine z_al0 (pc' := 24) 14 rfl rfl ?_
    refine z_getf (pc' := 27) 15 rfl rfl f_Wb_10_11 (by first | exact pcr_0 | exact pcr_1 | exact pcr_2 | exact pcr_3 | (rw [pcr_o (by decide)]; first | exact pcc_5 | exact pcc_6 | exact pcc_7 | exact pcc_8 | exact pcc_9 | exact pcc_10 | exact pcc_11 | exact pcc_12 | exact pcc_13 | exact pcc_14 | exact pcc_15 | exact pcc_22 | (rw [pcc_o (by decide)]; assumption))) (by rfl) ?_
    refine z_getf (pc' := 30) 16 rfl rfl f_Wb_110_3 (by first | exact pcr_0 | exact pcr_1 | exact pcr_2 | exact pcr_3 | (rw [pcr_o (by decide)]; first | exact pcc_5 | exact pcc_6 | exact pcc_7 | exact pcc_8 | exact pcc_9 | exact pcc_10 | exact pcc_11 | exact pcc_12 | exact pcc_13 | exact pcc_14 | exact pcc_15 | exact pcc_22 | (rw [pcc_o (by decide)]; assumption))) (by rfl) ?_
    first | refine z_icmp_gtN (pc' := 33) 17 rfl rfl (tgt := 106) rfl (by omega) (by omega) (fun h30 => ?_) (fun h30 => ?_) | refine z_icmp_gt (pc' := 33) 17 rfl rfl (tgt := 106) rfl (fun h30 => ?_) (fun h30 => ?_)
    · refine z_il2 (pc' := 107) 52 rfl rfl ?_
      exact z_ireturn 53 rfl rfl (by first | rfl | exact zbo_nar) rfl rfl (by exact K _ _ _ _ _)
    · exfalso; omega
  | j + 1, k, mt, ct, pt, ft, qt, b, x, e, eb, ex, K => by
    have hi0 := hi.1
    have hi1 := hi.2.1
    have hvl := wvl_lt hi (D := D) (t := (mo, pr, fa)) (g := g) (k := k)
    have hbl := bwN_lt hi (D := D) (t := (mo, pr, fa)) (g := g) k
    have hwk : ∀ w, w = wk S k → (wvl S D (mo, pr, fa) g k = rsA S D (S 0 3 - mo) 0 (mo, un pr g w, un fa g (S 3 g))) := fun w e => by rw [e]; rfl
    have hob0 := hob
    unfold isOb at hob
    refine z_il4 (pc' := 23) 13 rfl rfl ?_
    refine z_al0 (pc' := 24) 14 rfl rfl ?_
    refine z_getf (pc' := 27) 15 rfl rfl f_Wb_10_11 (by first | exact pcr_0 | exact pcr_1 | exact pcr_2 | exact pcr_3 | (rw [pcr_o (by decide)]; first | exact pcc_5 | exact pcc_6 | exact pcc_7 | exact pcc_8 | exact pcc_9 | exact pcc_10 | exact pcc_11 | exact pcc_12 | exact pcc_13 | exact pcc_14 | exact pcc_15 | exact pcc_22 | (rw [pcc_o (by decide)]; assumption))) (by rfl) ?_
    refine z_getf (pc' := 30) 16 rfl rfl f_Wb_110_3 (by first | exact pcr_0 | exact pcr_1 | exact pcr_2 | exact pcr_3 | (rw [pcr_o (by decide)]; first | exact pcc_5 | exact pcc_6 | exact pcc_7 | exact pcc_8 | exact pcc_9 | exact pcc_10 | exact pcc_11 | exact pcc_12 | exact pcc_13 | exact pcc_14 | exact pcc_15 | exact pcc_22 | (rw [pcc_o (by decide)]; assumption))) (by rfl) ?_
    first | refine z_icmp_gtN (pc' := 33) 17 rfl rfl (tgt := 106) rfl (by omega) (by omega) (fun h30 => ?_) (fun h30 => ?_) | refine z_icmp_gt (pc' := 33) 17 rfl rfl (tgt := 106) rfl (fun h30 => ?_) (fun h30 => ?_)
    · exfalso; omega
    · refine z_il4 (pc' := 35) 18 rfl rfl ?_
      refine z_al0 (pc' := 36) 19 rfl rfl ?_
      refine z_getf (pc' := 39) 20 rfl rfl f_Wb_10_11 (by first | exact pcr_0 | exact pcr_1 | exact pcr_2 | exact pcr_3 | (rw [pcr_o (by decide)]; first | exact pcc_5 | exact pcc_6 | exact pcc_7 | exact pcc_8 | exact pcc_9 | exact pcc_10 | exact pcc_11 | exact pcc_12 | exact pcc_13 | exact pcc_14 | exact pcc_15 | exact pcc_22 | (rw [pcc_o (by decide)]; assumption))) (by rfl) ?_
      refine z_getf (pc' := 42) 21 rfl rfl f_Wb_110_3 (by first | exact pcr_0 | exact pcr_1 | exact pcr_2 | exact pcr_3 | (rw [pcr_o (by decide)]; first | exact pcc_5 | exact pcc_6 | exact pcc_7 | exact pcc_8 | exact pcc_9 | exact pcc_10 | exact pcc_11 | exact pcc_12 | exact pcc_13 | exact pcc_14 | exact pcc_15 | exact pcc_22 | (rw [pcc_o (by decide)]; assumption))) (by rfl) ?_
      first | refine z_icmp_geN (pc' := 45) 22 rfl rfl (tgt := 50) rfl (by omega) (by omega) (fun h42 => ?_) (fun h42 => ?_) | refine z_icmp_ge (pc' := 45) 22 rfl rfl (tgt := 50) rfl (fun h42 => ?_) (fun h42 => ?_)
      · refine z_bipush (v := nI 6) (by decide) (pc' := 52) 25 rfl rfl ?_
        have hw9 : 6 = wk S k := by unfold wk; rw [if_neg (by omega)]
        refine z_is5 rfl rfl (pc' := 54) 26 rfl rfl ?_
        refine z_al0 (pc' := 55) 27 rfl rfl ?_
        refine z_getf (pc' := 58) 28 rfl rfl f_Wb_22_11 (by first | exact pcr_0 | exact pcr_1 | exact pcr_2 | exact pcr_3 | (rw [pcr_o (by decide)]; first | exact pcc_5 | exact pcc_6 | exact pcc_7 | exact pcc_8 | exact pcc_9 | exact pcc_10 | exact pcc_11 | exact pcc_12 | exact pcc_13 | exact pcc_14 | exact pcc_15 | exact pcc_22 | (rw [pcc_o (by decide)]; assumption))) (by rfl) ?_
        refine z_al0 (pc' := 59) 29 rfl rfl ?_
        refine z_getf (pc' := 62) 30 rfl rfl f_Wb_10_11 (by first | exact pcr_0 | exact pcr_1 | exact pcr_2 | exact pcr_3 | (rw [pcr_o (by decide)]; first | exact pcc_5 | exact pcc_6 | exact pcc_7 | exact pcc_8 | exact pcc_9 | exact pcc_10 | exact pcc_11 | exact pcc_12 | exact pcc_13 | exact pcc_14 | exact pcc_15 | exact pcc_22 | (rw [pcc_o (by decide)]; assumption))) (by rfl) ?_
        refine z_getr (pc' := 65) 31 rfl rfl f_Wb_97_3 (by first | exact pcr_0 | exact pcr_1 | exact pcr_2 | exact pcr_3 | (rw [pcr_o (by decide)]; first | exact pcc_5 | exact pcc_6 | exact pcc_7 | exact pcc_8 | exact pcc_9 | exact pcc_10 | exact pcc_11 | exact pcc_12 | exact pcc_13 | exact pcc_14 | exact pcc_15 | exact pcc_22 | (rw [pcc_o (by decide)]; assumption))) (by rfl) ?_
        refine z_callV0 (pc' := 68) 32 rfl rfl k_Wb_184 (by first | exact pcr_0 | exact pcr_1 | exact pcr_2 | exact pcr_3 | (rw [pcr_o (by decide)]; first | exact pcc_5 | exact pcc_6 | exact pcc_7 | exact pcc_8 | exact pcc_9 | exact pcc_10 | exact pcc_11 | exact pcc_12 | exact pcc_13 | exact pcc_14 | exact pcc_15 | exact pcc_22 | (rw [pcc_o (by decide)]; assumption))) (c_Cr_copyFrom isCr_pcc (Or.inl (by decide))) (by decide) (Nat.le_refl _) (Nat.le_refl _) rfl rfl (Nat.le_of_ble_eq_true rfl) ?_
        refine z_al0 (pc' := 69) 33 rfl rfl ?_
        refine z_getf (pc' := 72) 34 rfl rfl f_Wb_22_11 (by first | exact pcr_0 | exact pcr_1 | exact pcr_2 | exact pcr_3 | (rw [pcr_o (by decide)]; first | exact pcc_5 | exact pcc_6 | exact pcc_7 | exact pcc_8 | exact pcc_9 | exact pcc_10 | exact pcc_11 | exact pcc_12 | exact pcc_13 | exact pcc_14 | exact pcc_15 | exact pcc_22 | (rw [pcc_o (by decide)]; assumption))) (by rfl) ?_
        refine z_al0 (pc' := 73) 35 rfl rfl ?_
        refine z_getf (pc' := 76) 36 rfl rfl f_Wb_10_11 (by first | exact pcr_0 | exact pcr_1 | exact pcr_2 | exact pcr_3 | (rw [pcr_o (by decide)]; first | exact pcc_5 | exact pcc_6 | exact pcc_7 | exact pcc_8 | exact pcc_9 | exact pcc_10 | exact pcc_11 | exact pcc_12 | exact pcc_13 | exact pcc_14 | exact pcc_15 | exact pcc_22 | (rw [pcc_o (by decide)]; assumption))) (by rfl) ?_
        refine z_il1 (pc' := 77) 37 rfl rfl ?_
        refine z_il5 (pc' := 79) 38 rfl rfl ?_
        refine z_callV0 (pc' := 82) 39 rfl rfl k_Wb_142 (by first | exact pcr_0 | exact pcr_1 | exact pcr_2 | exact pcr_3 | (rw [pcr_o (by decide)]; first | exact pcc_5 | exact pcc_6 | exact pcc_7 | exact pcc_8 | exact pcc_9 | exact pcc_10 | exact pcc_11 | exact pcc_12 | exact pcc_13 | exact pcc_14 | exact pcc_15 | exact pcc_22 | (rw [pcc_o (by decide)]; assumption))) (c_Cr_promiseTo isCo_pcc hi (Or.inr (by decide)) (by omega)) (by decide) (Nat.le_refl _) (Nat.le_refl _) rfl rfl (Nat.le_of_ble_eq_true rfl) ?_
        have hx2 : iX S (un pr g _) (un fa g (S 3 g)) := iX_pr hi hx hg (w := wk S k) (by unfold wk; split <;> omega)
        rw [← hw9] at hx2
        refine z_al0 (pc' := 83) 40 rfl rfl ?_
        refine z_callVX1 (pc' := 86) 41 rfl rfl k_Wb_190 (by first | exact pcr_0 | exact pcr_1 | exact pcr_2 | exact pcr_3 | (rw [pcr_o (by decide)]; first | exact pcc_5 | exact pcc_6 | exact pcc_7 | exact pcc_8 | exact pcc_9 | exact pcc_10 | exact pcc_11 | exact pcc_12 | exact pcc_13 | exact pcc_14 | exact pcc_15 | exact pcc_22 | (rw [pcc_o (by decide)]; assumption))) (c_Wb_trialRest hob0 hi hbk hD hm hx2) (by decide) (Nat.le_refl _) (Nat.le_refl _) rfl rfl (Nat.le_of_ble_eq_true rfl) (fun q83 => ?_)
        rw [← hwk _ hw9]
        refine z_is6 rfl rfl (pc' := 88) 42 rfl rfl ?_
        refine z_il6 (pc' := 90) 43 rfl rfl ?_
        refine z_il3 (pc' := 91) 44 rfl rfl ?_
        first | refine z_icmp_leN (pc' := 94) 45 rfl rfl (tgt := 100) rfl (by omega) (by omega) (fun h91 => ?_) (fun h91 => ?_) | refine z_icmp_le (pc' := 94) 45 rfl rfl (tgt := 100) rfl (fun h91 => ?_) (fun h91 => ?_)
        · have hc : wvl S D (mo, pr, fa) g k + 1 ≤ (bwN S D (mo, pr, fa) g k).2 := (le_hd (by omega) (by omega)).mp (by rw [← ex]; exact h91)
          first | refine z_inc4N rfl rfl (pc' := 103) 50 rfl rfl ?_ | refine z_inc4 rfl rfl rfl (pc' := 103) 50 rfl rfl ?_
          refine z_goto 51 rfl (tgt := 21) rfl ?_
          refine z_less5 ?_
          refine z_less6 ?_
          exact l_Wb_windFor hob0 hi hbk hD hg hm hx j (k + 1) _ _ _ _ _ _ _ (by omega) (by rw [bwN, if_pos hc]; exact eb) (by rw [bwN, if_pos hc]; exact ex) K
        · have hc : ¬ wvl S D (mo, pr, fa) g k + 1 ≤ (bwN S D (mo, pr, fa) g k).2 := fun z => h91 (by rw [ex]; exact (le_hd (by omega) (by omega)).mpr z)
          refine z_il6 (pc' := 96) 46 rfl rfl ?_
          refine z_is3 rfl rfl (pc' := 97) 47 rfl rfl ?_
          refine z_il5 (pc' := 99) 48 rfl rfl ?_
          refine z_is2 rfl rfl (pc' := 100) 49 rfl rfl ?_
          
          first | refine z_inc4N rfl rfl (pc' := 103) 50 rfl rfl ?_ | refine z_inc4 rfl rfl rfl (pc' := 103) 50 rfl rfl ?_
          refine z_goto 51 rfl (tgt := 21) rfl ?_
          refine z_less5 ?_
          refine z_less6 ?_
          exact l_Wb_windFor hob0 hi hbk hD hg hm hx j (k + 1) _ _ _ _ _ _ _ (by omega) (by rw [bwN, if_neg hc]; exact hw9) (by rw [bwN, if_neg hc]; exact (hdI_s _).symm) K
      · refine z_il4 (pc' := 47) 23 rfl rfl ?_
        refine z_goto 24 rfl (tgt := 52) rfl ?_
        have hw9 : k = wk S k := by unfold wk; rw [if_pos (by omega)]
        refine z_is5 rfl rfl (pc' := 54) 26 rfl rfl ?_
        refine z_al0 (pc' := 55) 27 rfl rfl ?_
        refine z_getf (pc' := 58) 28 rfl rfl f_Wb_22_11 (by first | exact pcr_0 | exact pcr_1 | exact pcr_2 | exact pcr_3 | (rw [pcr_o (by decide)]; first | exact pcc_5 | exact pcc_6 | exact pcc_7 | exact pcc_8 | exact pcc_9 | exact pcc_10 | exact pcc_11 | exact pcc_12 | exact pcc_13 | exact pcc_14 | exact pcc_15 | exact pcc_22 | (rw [pcc_o (by decide)]; assumption))) (by rfl) ?_
        refine z_al0 (pc' := 59) 29 rfl rfl ?_
        refine z_getf (pc' := 62) 30 rfl rfl f_Wb_10_11 (by first | exact pcr_0 | exact pcr_1 | exact pcr_2 | exact pcr_3 | (rw [pcr_o (by decide)]; first | exact pcc_5 | exact pcc_6 | exact pcc_7 | exact pcc_8 | exact pcc_9 | exact pcc_10 | exact pcc_11 | exact pcc_12 | exact pcc_13 | exact pcc_14 | exact pcc_15 | exact pcc_22 | (rw [pcc_o (by decide)]; assumption))) (by rfl) ?_
        refine z_getr (pc' := 65) 31 rfl rfl f_Wb_97_3 (by first | exact pcr_0 | exact pcr_1 | exact pcr_2 | exact pcr_3 | (rw [pcr_o (by decide)]; first | exact pcc_5 | exact pcc_6 | exact pcc_7 | exact pcc_8 | exact pcc_9 | exact pcc_10 | exact pcc_11 | exact pcc_12 | exact pcc_13 | exact pcc_14 | exact pcc_15 | exact pcc_22 | (rw [pcc_o (by decide)]; assumption))) (by rfl) ?_
        refine z_callV0 (pc' := 68) 32 rfl rfl k_Wb_184 (by first | exact pcr_0 | exact pcr_1 | exact pcr_2 | exact pcr_3 | (rw [pcr_o (by decide)]; first | exact pcc_5 | exact pcc_6 | exact pcc_7 | exact pcc_8 | exact pcc_9 | exact pcc_10 | exact pcc_11 | exact pcc_12 | exact pcc_13 | exact pcc_14 | exact pcc_15 | exact pcc_22 | (rw [pcc_o (by decide)]; assumption))) (c_Cr_copyFrom isCr_pcc (Or.inl (by decide))) (by decide) (Nat.le_refl _) (Nat.le_refl _) rfl rfl (Nat.le_of_ble_eq_true rfl) ?_
        refine z_al0 (pc' := 69) 33 rfl rfl ?_
        refine z_getf (pc' := 72) 34 rfl rfl f_Wb_22_11 (by first | exact pcr_0 | exact pcr_1 | exact pcr_2 | exact pcr_3 | (rw [pcr_o (by decide)]; first | exact pcc_5 | exact pcc_6 | exact pcc_7 | exact pcc_8 | exact pcc_9 | exact pcc_10 | exact pcc_11 | exact pcc_12 | exact pcc_13 | exact pcc_14 | exact pcc_15 | exact pcc_22 | (rw [pcc_o (by decide)]; assumption))) (by rfl) ?_
        refine z_al0 (pc' := 73) 35 rfl rfl ?_
        refine z_getf (pc' := 76) 36 rfl rfl f_Wb_10_11 (by first | exact pcr_0 | exact pcr_1 | exact pcr_2 | exact pcr_3 | (rw [pcr_o (by decide)]; first | exact pcc_5 | exact pcc_6 | exact pcc_7 | exact pcc_8 | exact pcc_9 | exact pcc_10 | exact pcc_11 | exact pcc_12 | exact pcc_13 | exact pcc_14 | exact pcc_15 | exact pcc_22 | (rw [pcc_o (by decide)]; assumption))) (by rfl) ?_
        refine z_il1 (pc' := 77) 37 rfl rfl ?_
        refine z_il5 (pc' := 79) 38 rfl rfl ?_
        refine z_callV0 (pc' := 82) 39 rfl rfl k_Wb_142 (by first | exact pcr_0 | exact pcr_1 | exact pcr_2 | exact pcr_3 | (rw [pcr_o (by decide)]; first | exact pcc_5 | exact pcc_6 | exact pcc_7 | exact pcc_8 | exact pcc_9 | exact pcc_10 | exact pcc_11 | exact pcc_12 | exact pcc_13 | exact pcc_14 | exact pcc_15 | exact pcc_22 | (rw [pcc_o (by decide)]; assumption))) (c_Cr_promiseTo isCo_pcc hi (Or.inr (by decide)) (by omega)) (by decide) (Nat.le_refl _) (Nat.le_refl _) rfl rfl (Nat.le_of_ble_eq_true rfl) ?_
        have hx2 : iX S (un pr g _) (un fa g (S 3 g)) := iX_pr hi hx hg (w := wk S k) (by unfold wk; split <;> omega)
        rw [← hw9] at hx2
        refine z_al0 (pc' := 83) 40 rfl rfl ?_
        refine z_callVX1 (pc' := 86) 41 rfl rfl k_Wb_190 (by first | exact pcr_0 | exact pcr_1 | exact pcr_2 | exact pcr_3 | (rw [pcr_o (by decide)]; first | exact pcc_5 | exact pcc_6 | exact pcc_7 | exact pcc_8 | exact pcc_9 | exact pcc_10 | exact pcc_11 | exact pcc_12 | exact pcc_13 | exact pcc_14 | exact pcc_15 | exact pcc_22 | (rw [pcc_o (by decide)]; assumption))) (c_Wb_trialRest hob0 hi hbk hD hm hx2) (by decide) (Nat.le_refl _) (Nat.le_refl _) rfl rfl (Nat.le_of_ble_eq_true rfl) (fun q83 => ?_)
        rw [← hwk _ hw9]
        refine z_is6 rfl rfl (pc' := 88) 42 rfl rfl ?_
        refine z_il6 (pc' := 90) 43 rfl rfl ?_
        refine z_il3 (pc' := 91) 44 rfl rfl ?_
        first | refine z_icmp_leN (pc' := 94) 45 rfl rfl (tgt := 100) rfl (by omega) (by omega) (fun h91 => ?_) (fun h91 => ?_) | refine z_icmp_le (pc' := 94) 45 rfl rfl (tgt := 100) rfl (fun h91 => ?_) (fun h91 => ?_)
        · have hc : wvl S D (mo, pr, fa) g k + 1 ≤ (bwN S D (mo, pr, fa) g k).2 := (le_hd (by omega) (by omega)).mp (by rw [← ex]; exact h91)
          first | refine z_inc4N rfl rfl (pc' := 103) 50 rfl rfl ?_ | refine z_inc4 rfl rfl rfl (pc' := 103) 50 rfl rfl ?_
          refine z_goto 51 rfl (tgt := 21) rfl ?_
          refine z_less5 ?_
          refine z_less6 ?_
          exact l_Wb_windFor hob0 hi hbk hD hg hm hx j (k + 1) _ _ _ _ _ _ _ (by omega) (by rw [bwN, if_pos hc]; exact eb) (by rw [bwN, if_pos hc]; exact ex) K
        · have hc : ¬ wvl S D (mo, pr, fa) g k + 1 ≤ (bwN S D (mo, pr, fa) g k).2 := fun z => h91 (by rw [ex]; exact (le_hd (by omega) (by omega)).mpr z)
          refine z_il6 (pc' := 96) 46 rfl rfl ?_
          refine z_is3 rfl rfl (pc' := 97) 47 rfl rfl ?_
          refine z_il5 (pc' := 99) 48 rfl rfl ?_
          refine z_is2 rfl rfl (pc' := 100) 49 rfl rfl ?_
          
          first | refine z_inc4N rfl rfl (pc' := 103) 50 rfl rfl ?_ | refine z_inc4 rfl rfl rfl (pc' := 103) 50 rfl rfl ?_
          refine z_goto 51 rfl (tgt := 21) rfl ?_
          refine z_less5 ?_
          refine z_less6 ?_
          exact l_Wb_windFor hob0 hi hbk hD hg hm hx j (k + 1) _ _ _ _ _ _ _ (by omega) (by rw [bwN, if_neg hc]; exact hw9) (by rw [bwN, if_neg hc]; exact (hdI_s _).symm) K
set_option maxHeartbeats 4000000 in
set_option maxRecDepth 100000 in
theorem c_Wb_windFor {G : zG} {n u : Nat} {μ : Nat → va_E} {κ : zκ} {kp : Int32} {ac : Value} (h : cst μ κ) (hob : isOb μ kp ac) (htr : isTr μ) (x : Int32) :
    zMet G 6 M_Wb_windFor [.ref 4, .int x] n u μ n u (cKt μ (f_windFor κ x)) := by
  obtain ⟨S, mo, pr, fa, sc, ch, rc, D⟩ := κ
  have hst := h
  obtain ⟨h1, ⟨cs, q, h2⟩, ⟨β, its, h3, h3a, h3b⟩, ⟨c23, h4⟩, h5⟩ := h
  have hk5 := h5
  obtain ⟨hi, hx, hmo, hrc⟩ := h5
  have hi0 := hi.1
  have hi1 := hi.2.1
  have hi2 := hi.2.2.1
  have hi3 := hi.2.2.2.2.1
  have hm16 : mo ≤ 16 := by omega
  refine z_start (lv := [.ref 4, .int x, .retAddr 0, .retAddr 0, .retAddr 0, .retAddr 0, .retAddr 0]) K_Wb_windFor rfl rfl (Nat.le_refl _) (Nat.le_refl _) (Nat.le_of_ble_eq_true rfl) rfl ?_
  have hob0 := hob
  unfold isOb at hob
  obtain ⟨mt, ct, pt, ft, qt, htr⟩ := htr
  refine z_mu (show μ = pcr (pcc μ S sc ch mo cs pr fa q) 43 mt ct pt ft qt by rw [pcc_id h1 h2, pcr_id htr]) ?_
  refine z_al0 (pc' := 1) 0 rfl rfl ?_
  refine z_getf (pc' := 4) 1 rfl rfl f_Wb_10_11 (by first | exact pcr_0 | exact pcr_1 | exact pcr_2 | exact pcr_3 | (rw [pcr_o (by decide)]; first | exact pcc_5 | exact pcc_6 | exact pcc_7 | exact pcc_8 | exact pcc_9 | exact pcc_10 | exact pcc_11 | exact pcc_12 | exact pcc_13 | exact pcc_14 | exact pcc_15 | exact pcc_22 | (rw [pcc_o (by decide)]; assumption))) (by rfl) ?_
  refine z_il1 (pc' := 5) 2 rfl rfl ?_
  refine z_callV1 (pc' := 8) 3 rfl rfl k_Wb_84 (by first | exact pcr_0 | exact pcr_1 | exact pcr_2 | exact pcr_3 | (rw [pcr_o (by decide)]; first | exact pcc_5 | exact pcc_6 | exact pcc_7 | exact pcc_8 | exact pcc_9 | exact pcc_10 | exact pcc_11 | exact pcc_12 | exact pcc_13 | exact pcc_14 | exact pcc_15 | exact pcc_22 | (rw [pcc_o (by decide)]; assumption))) (c_Co_hasGirl isCo_pcr43 hi _) (by decide) (Nat.le_refl _) (Nat.le_refl _) rfl rfl (Nat.le_of_ble_eq_true rfl) ?_
  first | refine z_if_neB (pc' := 11) 4 rfl rfl (tgt := 13) rfl (fun h8 => ?_) (fun h8 => ?_) | refine z_if_neN (pc' := 11) 4 rfl rfl (tgt := 13) rfl (by omega) (fun h8 => ?_) (fun h8 => ?_) | refine z_if_ne (pc' := 11) 4 rfl rfl (tgt := 13) rfl (fun h8 => ?_) (fun h8 => ?_)
  · obtain ⟨g, hg, rfl⟩ := z_in h8 (by omega)
    refine z_bipush (v := nI 6) (by decide) (pc' := 15) 7 rfl rfl ?_
    refine z_is2 rfl rfl (pc' := 16) 8 rfl rfl ?_
    refine z_iconst (v := (-1)) (by decide) (pc' := 17) 9 rfl rfl ?_
    refine z_is3 rfl rfl (pc' := 18) 10 rfl rfl ?_
    refine z_iconst (v := nI 0) (by decide) (pc' := 19) 11 rfl rfl ?_
    refine z_is4 rfl rfl (pc' := 21) 12 rfl rfl ?_
    refine l_Wb_windFor hob0 hi h3 h3a hg hm16 hx (S 0 1 + 1) 0 _ _ _ _ _ _ _ (by omega) rfl rfl (fun mt1 ct1 pt1 ft1 qt1 => ?_)
    show cKt μ _ _ _; rw [f_windFor, if_pos h8, tN_n (by omega)]; exact cKt_of hst rfl rfl (hk5)
  · refine z_iconst (v := (-1)) (by decide) (pc' := 12) 5 rfl rfl ?_
    exact z_ireturn 6 rfl rfl (by first | rfl | exact zbo_nar) rfl rfl (by show cKt μ _ _ _; rw [f_windFor, if_neg h8]; exact cKt_of hst rfl rfl (hk5))
theorem nI_nl9 {a b : Nat} (h : a < b) (hb : b < 2 ^ 31) : ¬ nI b ≤ nI a := fun q => by
  have := (nI_leI hb (by omega)).mp q
  omega
set_option maxHeartbeats 4000000 in
set_option maxRecDepth 100000 in
theorem l_Mo_windFor {G : zG} {n u : Nat} {Φ : zP} {ν : Nat → va_E} {s : Nat → Int32} {S : Nat → Nat → Nat} {ch : Int32} {rc : Nat} {ρ : Nat → Int32} {D : zD6} (hi : iS S) (hD : dzM ρ rc D) {g mo : Nat} {pr fa : Nat → Nat} {sc : Int32} (hg : g < S 0 0) (hm : mo ≤ 16) (hx : iX S pr fa) : ∀ j k (q : Nat → Int32) v b x, k + j = S 0 1 + 1 → b = (bwN S D (mo, pr, fa) g k).1 → x = hdI (bwN S D (mo, pr, fa) g k).2 →
    (∀ (q' : Nat → Int32) v', Φ (some (.int (nI (bwN S D (mo, pr, fa) g (S 0 1 + 1)).1))) (pm (zu (zu ν 91 (.inl (0, 618, .inl (mk S mo pr fa sc ch rc ρ)))) 93 (.inl (1, 100, .inl q'))) (un s 14 v') (mk S mo pr fa sc ch rc ρ))) →
    zW G 7 M_Mo_windFor 21 [.ref 88, .int (nI g), .int (hasI b), .int x, .int (nI k), .retAddr 0] [] n u (pm (zu (zu ν 91 (.inl (0, 618, .inl (mk S mo pr fa sc ch rc ρ)))) 93 (.inl (1, 100, .inl q))) (un s 14 v) (mk S mo pr fa sc ch rc ρ)) n u Φ
  | 0, k, q, v, b, x, e, eb, ex, K => by
    have hi1 := hi.2.1
    obtain rfl : k = S 0 1 + 1 := by omega
    subst eb
    have hbl := bwN_lt hi (D := D) (t := (mo, pr, fa)) (g := g) (S 0 1 + 1)
    refine z_il4 (pc' := 23) 14 rfl rfl ?_
    refine z_al0 (pc' := 24) 15 rfl rfl ?_
    refine z_getf (pc' := 27) 16 rfl rfl f_Mo_9_12 (by first | exact pm_f | exact pm_1 | (rw [pm_o (by decide)]; first | exact zu_s | (rw [zu_n (by decide)]; first | exact zu_s | (rw [zu_n (by decide)]; assumption)))) (by rfl) ?_
    refine z_iconst (v := nI 2) (by decide) (pc' := 28) 17 rfl rfl ?_
    refine z_iald (pc' := 29) 18 rfl rfl (by first | exact pm_f | exact pm_1 | (rw [pm_o (by decide)]; first | exact zu_s | (rw [zu_n (by decide)]; first | exact zu_s | (rw [zu_n (by decide)]; assumption)))) (by omega) (by decide) ?_
    rw [mk_2]
    first | refine z_icmp_gtN (pc' := 32) 19 rfl rfl (tgt := 109) rfl (by omega) (by omega) (fun h29 => ?_) (fun h29 => ?_) | refine z_icmp_gt (pc' := 32) 19 rfl rfl (tgt := 109) rfl (fun h29 => ?_) (fun h29 => ?_)
    · refine z_il2 (pc' := 110) 60 rfl rfl ?_
      refine z_callS1 (pc' := 113) 61 rfl rfl k_Mo_100 (c_Mo_orSix hbl.2) (by decide) (Nat.le_refl _) (Nat.le_refl _) rfl rfl (Nat.le_of_ble_eq_true rfl) ?_
      exact z_ireturn 62 rfl rfl (by first | rfl | exact zbo_nar) rfl rfl (by exact K _ _)
    · exfalso; omega
  | j + 1, k, q, v, b, x, e, eb, ex, K => by
    have hi0 := hi.1
    have hi1 := hi.2.1
    have hi3 := hi.2.2.2.2.1
    have hvl := wvl_lt hi (D := D) (t := (mo, pr, fa)) (g := g) (k := k)
    have hbl := bwN_lt hi (D := D) (t := (mo, pr, fa)) (g := g) k
    have hwk : ∀ w, w = wk S k → (wvl S D (mo, pr, fa) g k = rsA S D (min 16 (S 0 3 - mo)) 0 (mo, un pr g w, un fa g (S 3 g))) := fun w e => by rw [e, show min 16 (S 0 3 - mo) = S 0 3 - mo by omega]; rfl
    refine z_il4 (pc' := 23) 14 rfl rfl ?_
    refine z_al0 (pc' := 24) 15 rfl rfl ?_
    refine z_getf (pc' := 27) 16 rfl rfl f_Mo_9_12 (by first | exact pm_f | exact pm_1 | (rw [pm_o (by decide)]; first | exact zu_s | (rw [zu_n (by decide)]; first | exact zu_s | (rw [zu_n (by decide)]; assumption)))) (by rfl) ?_
    refine z_iconst (v := nI 2) (by decide) (pc' := 28) 17 rfl rfl ?_
    refine z_iald (pc' := 29) 18 rfl rfl (by first | exact pm_f | exact pm_1 | (rw [pm_o (by decide)]; first | exact zu_s | (rw [zu_n (by decide)]; first | exact zu_s | (rw [zu_n (by decide)]; assumption)))) (by omega) (by decide) ?_
    rw [mk_2]
    first | refine z_icmp_gtN (pc' := 32) 19 rfl rfl (tgt := 109) rfl (by omega) (by omega) (fun h29 => ?_) (fun h29 => ?_) | refine z_icmp_gt (pc' := 32) 19 rfl rfl (tgt := 109) rfl (fun h29 => ?_) (fun h29 => ?_)
    · exfalso; omega
    · refine z_al0 (pc' := 33) 20 rfl rfl ?_
      refine z_il1 (pc' := 34) 21 rfl rfl ?_
      refine z_il4 (pc' := 36) 22 rfl rfl ?_
      refine z_al0 (pc' := 37) 23 rfl rfl ?_
      refine z_getf (pc' := 40) 24 rfl rfl f_Mo_9_12 (by first | exact pm_f | exact pm_1 | (rw [pm_o (by decide)]; first | exact zu_s | (rw [zu_n (by decide)]; first | exact zu_s | (rw [zu_n (by decide)]; assumption)))) (by rfl) ?_
      refine z_iconst (v := nI 2) (by decide) (pc' := 41) 25 rfl rfl ?_
      refine z_iald (pc' := 42) 26 rfl rfl (by first | exact pm_f | exact pm_1 | (rw [pm_o (by decide)]; first | exact zu_s | (rw [zu_n (by decide)]; first | exact zu_s | (rw [zu_n (by decide)]; assumption)))) (by omega) (by decide) ?_
      rw [mk_2]
      first | refine z_icmp_geN (pc' := 45) 27 rfl rfl (tgt := 50) rfl (by omega) (by omega) (fun h42 => ?_) (fun h42 => ?_) | refine z_icmp_ge (pc' := 45) 27 rfl rfl (tgt := 50) rfl (fun h42 => ?_) (fun h42 => ?_)
      · refine z_iconst (v := (-1)) (by decide) (pc' := 51) 30 rfl rfl ?_
        have hw9 : 6 = wk S k := by unfold wk; rw [if_neg (by omega)]
        refine z_te hasI_6.symm ?_
        have hx2 : iX S (un pr g (wk S k)) (un fa g (S 3 g)) := iX_pr hi hx hg (by unfold wk; split <;> omega)
        rw [← hw9] at hx2
        refine z_callV0 (pc' := 54) 31 rfl rfl k_Mo_116 (by first | exact pm_f | exact pm_1 | (rw [pm_o (by decide)]; first | exact zu_s | (rw [zu_n (by decide)]; first | exact zu_s | (rw [zu_n (by decide)]; assumption)))) (c_Mo_gets (by omega)) (by decide) (Nat.le_refl _) (Nat.le_refl _) rfl rfl (Nat.le_of_ble_eq_true rfl) ?_
        refine z_al0 (pc' := 55) 32 rfl rfl ?_
        refine z_bipush (v := nI 16) (by decide) (pc' := 57) 33 rfl rfl ?_
        refine z_callVX1 (pc' := 60) 34 rfl rfl k_Mo_230 (by first | exact pm_f | exact pm_1 | (rw [pm_o (by decide)]; first | exact zu_s | (rw [zu_n (by decide)]; first | exact zu_s | (rw [zu_n (by decide)]; assumption)))) (c_Mo_restOf hi hD (by decide) hm hx2) (by decide) (Nat.le_refl _) (Nat.le_refl _) rfl rfl (Nat.le_of_ble_eq_true rfl) (fun q57 => ?_)
        rw [un_un, ← hwk _ hw9]
        refine z_is5 rfl rfl (pc' := 62) 35 rfl rfl ?_
        refine z_il5 (pc' := 64) 36 rfl rfl ?_
        refine z_il3 (pc' := 65) 37 rfl rfl ?_
        first | refine z_icmp_leN (pc' := 68) 38 rfl rfl (tgt := 88) rfl (by omega) (by omega) (fun h65 => ?_) (fun h65 => ?_) | refine z_icmp_le (pc' := 68) 38 rfl rfl (tgt := 88) rfl (fun h65 => ?_) (fun h65 => ?_)
        · have hc : wvl S D (mo, pr, fa) g k + 1 ≤ (bwN S D (mo, pr, fa) g k).2 := (le_hd (by omega) (by omega)).mp (by rw [← ex]; exact h65)
          refine z_il2 (pc' := 89) 49 rfl rfl ?_
          
          refine z_is2 rfl rfl (pc' := 90) 50 rfl rfl ?_
          refine z_il5 (pc' := 92) 51 rfl rfl ?_
          refine z_il3 (pc' := 93) 52 rfl rfl ?_
          refine z_icmp_le_t 53 rfl (tgt := 101) rfl h65 ?_
          refine z_il3 (pc' := 102) 56 rfl rfl ?_
          refine z_is3 rfl rfl (pc' := 103) 57 rfl rfl ?_
          first | refine z_inc4N rfl rfl (pc' := 106) 58 rfl rfl ?_ | refine z_inc4 rfl rfl rfl (pc' := 106) 58 rfl rfl ?_
          refine z_goto 59 rfl (tgt := 21) rfl ?_
          refine z_less5 ?_
          exact l_Mo_windFor hi hD hg hm hx j (k + 1) _ _ _ _ (by omega) (by rw [bwN, if_pos hc]; exact eb) (by rw [bwN, if_pos hc]; exact ex) K
        · have hc : ¬ wvl S D (mo, pr, fa) g k + 1 ≤ (bwN S D (mo, pr, fa) g k).2 := fun z => h65 (by rw [ex]; exact (le_hd (by omega) (by omega)).mpr z)
          refine z_il4 (pc' := 70) 39 rfl rfl ?_
          refine z_al0 (pc' := 71) 40 rfl rfl ?_
          refine z_getf (pc' := 74) 41 rfl rfl f_Mo_9_12 (by first | exact pm_f | exact pm_1 | (rw [pm_o (by decide)]; first | exact zu_s | (rw [zu_n (by decide)]; first | exact zu_s | (rw [zu_n (by decide)]; assumption)))) (by rfl) ?_
          refine z_iconst (v := nI 2) (by decide) (pc' := 75) 42 rfl rfl ?_
          refine z_iald (pc' := 76) 43 rfl rfl (by first | exact pm_f | exact pm_1 | (rw [pm_o (by decide)]; first | exact zu_s | (rw [zu_n (by decide)]; first | exact zu_s | (rw [zu_n (by decide)]; assumption)))) (by omega) (by decide) ?_
          rw [mk_2]
          refine z_icmp_ge_t 44 rfl (tgt := 84) rfl (nI_le h42 (by omega)) ?_
          refine z_iconst (v := (-1)) (by decide) (pc' := 85) 47 rfl rfl ?_
          refine z_goto 48 rfl (tgt := 89) rfl ?_
          refine z_te hasI_6.symm ?_
          rw [hw9]
          refine z_is2 rfl rfl (pc' := 90) 50 rfl rfl ?_
          refine z_il5 (pc' := 92) 51 rfl rfl ?_
          refine z_il3 (pc' := 93) 52 rfl rfl ?_
          refine z_icmp_le_f (pc' := 96) 53 rfl rfl (tgt := 101) rfl h65 ?_
          refine z_il5 (pc' := 98) 54 rfl rfl ?_
          refine z_goto 55 rfl (tgt := 102) rfl ?_
          refine z_is3 rfl rfl (pc' := 103) 57 rfl rfl ?_
          first | refine z_inc4N rfl rfl (pc' := 106) 58 rfl rfl ?_ | refine z_inc4 rfl rfl rfl (pc' := 106) 58 rfl rfl ?_
          refine z_goto 59 rfl (tgt := 21) rfl ?_
          refine z_less5 ?_
          exact l_Mo_windFor hi hD hg hm hx j (k + 1) _ _ _ _ (by omega) (by rw [bwN, if_neg hc]) (by rw [bwN, if_neg hc]; exact (hdI_s _).symm) K
      · refine z_il4 (pc' := 47) 28 rfl rfl ?_
        refine z_goto 29 rfl (tgt := 51) rfl ?_
        have hw9 : k = wk S k := by unfold wk; rw [if_pos (by omega)]
        refine z_te (hasI_n (show k ≠ 6 by omega)).symm ?_
        have hx2 : iX S (un pr g (wk S k)) (un fa g (S 3 g)) := iX_pr hi hx hg (by unfold wk; split <;> omega)
        rw [← hw9] at hx2
        refine z_callV0 (pc' := 54) 31 rfl rfl k_Mo_116 (by first | exact pm_f | exact pm_1 | (rw [pm_o (by decide)]; first | exact zu_s | (rw [zu_n (by decide)]; first | exact zu_s | (rw [zu_n (by decide)]; assumption)))) (c_Mo_gets (by omega)) (by decide) (Nat.le_refl _) (Nat.le_refl _) rfl rfl (Nat.le_of_ble_eq_true rfl) ?_
        refine z_al0 (pc' := 55) 32 rfl rfl ?_
        refine z_bipush (v := nI 16) (by decide) (pc' := 57) 33 rfl rfl ?_
        refine z_callVX1 (pc' := 60) 34 rfl rfl k_Mo_230 (by first | exact pm_f | exact pm_1 | (rw [pm_o (by decide)]; first | exact zu_s | (rw [zu_n (by decide)]; first | exact zu_s | (rw [zu_n (by decide)]; assumption)))) (c_Mo_restOf hi hD (by decide) hm hx2) (by decide) (Nat.le_refl _) (Nat.le_refl _) rfl rfl (Nat.le_of_ble_eq_true rfl) (fun q57 => ?_)
        rw [un_un, ← hwk _ hw9]
        refine z_is5 rfl rfl (pc' := 62) 35 rfl rfl ?_
        refine z_il5 (pc' := 64) 36 rfl rfl ?_
        refine z_il3 (pc' := 65) 37 rfl rfl ?_
        first | refine z_icmp_leN (pc' := 68) 38 rfl rfl (tgt := 88) rfl (by omega) (by omega) (fun h65 => ?_) (fun h65 => ?_) | refine z_icmp_le (pc' := 68) 38 rfl rfl (tgt := 88) rfl (fun h65 => ?_) (fun h65 => ?_)
        · have hc : wvl S D (mo, pr, fa) g k + 1 ≤ (bwN S D (mo, pr, fa) g k).2 := (le_hd (by omega) (by omega)).mp (by rw [← ex]; exact h65)
          refine z_il2 (pc' := 89) 49 rfl rfl ?_
          
          refine z_is2 rfl rfl (pc' := 90) 50 rfl rfl ?_
          refine z_il5 (pc' := 92) 51 rfl rfl ?_
          refine z_il3 (pc' := 93) 52 rfl rfl ?_
          refine z_icmp_le_t 53 rfl (tgt := 101) rfl h65 ?_
          refine z_il3 (pc' := 102) 56 rfl rfl ?_
          refine z_is3 rfl rfl (pc' := 103) 57 rfl rfl ?_
          first | refine z_inc4N rfl rfl (pc' := 106) 58 rfl rfl ?_ | refine z_inc4 rfl rfl rfl (pc' := 106) 58 rfl rfl ?_
          refine z_goto 59 rfl (tgt := 21) rfl ?_
          refine z_less5 ?_
          exact l_Mo_windFor hi hD hg hm hx j (k + 1) _ _ _ _ (by omega) (by rw [bwN, if_pos hc]; exact eb) (by rw [bwN, if_pos hc]; exact ex) K
        · have hc : ¬ wvl S D (mo, pr, fa) g k + 1 ≤ (bwN S D (mo, pr, fa) g k).2 := fun z => h65 (by rw [ex]; exact (le_hd (by omega) (by omega)).mpr z)
          refine z_il4 (pc' := 70) 39 rfl rfl ?_
          refine z_al0 (pc' := 71) 40 rfl rfl ?_
          refine z_getf (pc' := 74) 41 rfl rfl f_Mo_9_12 (by first | exact pm_f | exact pm_1 | (rw [pm_o (by decide)]; first | exact zu_s | (rw [zu_n (by decide)]; first | exact zu_s | (rw [zu_n (by decide)]; assumption)))) (by rfl) ?_
          refine z_iconst (v := nI 2) (by decide) (pc' := 75) 42 rfl rfl ?_
          refine z_iald (pc' := 76) 43 rfl rfl (by first | exact pm_f | exact pm_1 | (rw [pm_o (by decide)]; first | exact zu_s | (rw [zu_n (by decide)]; first | exact zu_s | (rw [zu_n (by decide)]; assumption)))) (by omega) (by decide) ?_
          rw [mk_2]
          refine z_icmp_ge_f (pc' := 79) 44 rfl rfl (tgt := 84) rfl (nI_nl9 h42 (by omega)) ?_
          refine z_il4 (pc' := 81) 45 rfl rfl ?_
          refine z_goto 46 rfl (tgt := 89) rfl ?_
          refine z_te (hasI_n (show k ≠ 6 by omega)).symm ?_
          refine z_te (congrArg hasI hw9) ?_
          refine z_is2 rfl rfl (pc' := 90) 50 rfl rfl ?_
          refine z_il5 (pc' := 92) 51 rfl rfl ?_
          refine z_il3 (pc' := 93) 52 rfl rfl ?_
          refine z_icmp_le_f (pc' := 96) 53 rfl rfl (tgt := 101) rfl h65 ?_
          refine z_il5 (pc' := 98) 54 rfl rfl ?_
          refine z_goto 55 rfl (tgt := 102) rfl ?_
          refine z_is3 rfl rfl (pc' := 103) 57 rfl rfl ?_
          first | refine z_inc4N rfl rfl (pc' := 106) 58 rfl rfl ?_ | refine z_inc4 rfl rfl rfl (pc' := 106) 58 rfl rfl ?_
          refine z_goto 59 rfl (tgt := 21) rfl ?_
          refine z_less5 ?_
          exact l_Mo_windFor hi hD hg hm hx j (k + 1) _ _ _ _ (by omega) (by rw [bwN, if_neg hc]) (by rw [bwN, if_neg hc]; exact (hdI_s _).symm) K
set_option maxHeartbeats 4000000 in
set_option maxRecDepth 100000 in
theorem c_Mo_windFor {G : zG} {n u : Nat} {μ : Nat → va_E} {κ : zκ} {s : Nat → Int32} (h : mst μ s κ) (x : Int32) :
    zMet G 7 M_Mo_windFor [.ref 88, .int x] n u μ n u (mK μ s (f_windFor κ x)) := by
  obtain ⟨S, mo, pr, fa, sc, ch, rc, D⟩ := κ
  have hst := h
  obtain ⟨⟨ρ, h1, hD⟩, h2, ⟨q93, h93⟩, ⟨q91, h91⟩, ⟨q94, h94⟩, ⟨q95, h95⟩, ⟨q96, h96⟩, ⟨q97, h97⟩, h5⟩ := h
  have hk5 := h5
  obtain ⟨hi, hx, hmo, hrc⟩ := h5
  have hi0 := hi.1
  have hi1 := hi.2.1
  have hi2 := hi.2.2.1
  have hi3 := hi.2.2.2.2.1
  have hm16 : mo ≤ 16 := by omega
  refine z_start (lv := [.ref 88, .int x, .retAddr 0, .retAddr 0, .retAddr 0, .retAddr 0]) K_Mo_windFor rfl rfl (Nat.le_refl _) (Nat.le_refl _) (Nat.le_of_ble_eq_true rfl) rfl ?_
  refine z_mu (show μ = pm (zu (zu μ 91 (.inl (0, 618, .inl q91))) 93 (.inl (1, 100, .inl q93))) s (mk S mo pr fa sc ch rc ρ) by rw [zu_id h91, zu_id h93, pm_id h2 h1]) ?_
  refine z_al0 (pc' := 1) 0 rfl rfl ?_
  refine z_il1 (pc' := 2) 1 rfl rfl ?_
  refine z_callV1 (pc' := 5) 2 rfl rfl k_Mo_92 (by first | exact pm_f | exact pm_1 | (rw [pm_o (by decide)]; first | exact zu_s | (rw [zu_n (by decide)]; first | exact zu_s | (rw [zu_n (by decide)]; assumption)))) (c_Mo_isGirl hi _) (by decide) (Nat.le_refl _) (Nat.le_refl _) rfl rfl (Nat.le_of_ble_eq_true rfl) ?_
  first | refine z_if_neB (pc' := 8) 3 rfl rfl (tgt := 10) rfl (fun h5 => ?_) (fun h5 => ?_) | refine z_if_neN (pc' := 8) 3 rfl rfl (tgt := 10) rfl (by omega) (fun h5 => ?_) (fun h5 => ?_) | refine z_if_ne (pc' := 8) 3 rfl rfl (tgt := 10) rfl (fun h5 => ?_) (fun h5 => ?_)
  · obtain ⟨g, hg, rfl⟩ := z_in h5 (by omega)
    refine z_al0 (pc' := 11) 6 rfl rfl ?_
    refine z_callV0 (pc' := 14) 7 rfl rfl k_Mo_194 (by first | exact pm_f | exact pm_1 | (rw [pm_o (by decide)]; first | exact zu_s | (rw [zu_n (by decide)]; first | exact zu_s | (rw [zu_n (by decide)]; assumption)))) (c_Mo_thinks) (by decide) (Nat.le_refl _) (Nat.le_refl _) rfl rfl (Nat.le_of_ble_eq_true rfl) ?_
    refine z_iconst (v := (-1)) (by decide) (pc' := 15) 8 rfl rfl ?_
    refine z_is2 rfl rfl (pc' := 16) 9 rfl rfl ?_
    refine z_iconst (v := (-1)) (by decide) (pc' := 17) 10 rfl rfl ?_
    refine z_is3 rfl rfl (pc' := 18) 11 rfl rfl ?_
    refine z_iconst (v := nI 0) (by decide) (pc' := 19) 12 rfl rfl ?_
    refine z_is4 rfl rfl (pc' := 21) 13 rfl rfl ?_
    refine z_mu (show _ = pm (zu (zu μ 91 (.inl (0, 618, .inl (mk S mo pr fa sc ch rc ρ)))) 93 (.inl (1, 100, .inl q93))) (un s 14 (s 14)) (mk S mo pr fa sc ch rc ρ) by rw [un_id]) ?_
    refine l_Mo_windFor hi hD hg hm16 hx (S 0 1 + 1) 0 _ _ 6 _ (by omega) rfl rfl (fun q1 v1 => ?_)
    show mK μ s _ _ _; rw [f_windFor, if_pos h5, tN_n (by omega)]; exact mK_of3 hst (sEq14) hD (hk5)
  · refine z_iconst (v := (-1)) (by decide) (pc' := 9) 4 rfl rfl ?_
    exact z_ireturn 5 rfl rfl (by first | rfl | exact zbo_nar) rfl rfl (by show mK μ s _ _ _; rw [f_windFor, if_neg h5]; exact mK_of3 hst (sEq_r) hD (hk5))
