theorem isSh_fr {μ μ' : Nat → va_E} {τ : zτ} (h : isSh μ τ) (hf : ∀ i, 81 ≤ i → i ≤ 83 → μ' i = μ i) : isSh μ' τ := ⟨by rw [hf _ (by decide) (by decide)]; exact h.1, by rw [hf _ (by decide) (by decide)]; exact h.2.1, by rw [hf _ (by decide) (by decide)]; exact h.2.2.1, h.2.2.2⟩
theorem isOb_fr {μ μ' : Nat → va_E} {kp : Int32} {ac : Value} (h : isOb μ kp ac) (hf : μ' 4 = μ 4) : isOb μ' kp ac := hf.trans h
theorem gaA_ok {S : Nat → Nat → Nat} (hi : iS S) {D : zD6} {τ : zτ} {sh : Nat} {i : Int32} : ∀ c k acc (t : zT3) sc, t.1 ≤ S 0 3 → iX S t.2.1 t.2.2 → (gaA S D τ sh i c k acc t sc).2.1.1 ≤ S 0 3 ∧ iX S (gaA S D τ sh i c k acc t sc).2.1.2.1 (gaA S D τ sh i c k acc t sc).2.1.2.2
  | 0, _, _, t, _, h, hx => ⟨h, hx⟩
  | c + 1, k, acc, t, sc, h, hx => by
    unfold gaA
    split
    · split
      · rename_i q
        exact gaA_ok hi c (k + 1) _ _ _ (by show t.1 + 1 ≤ S 0 3; have := q.2; omega) (iX_stp hi hx)
      · exact gaA_ok hi c (k + 1) _ _ _ h hx
    · exact ⟨h, hx⟩
set_option maxHeartbeats 4000000 in
set_option maxRecDepth 100000 in
theorem l_Wb_goAll {G : zG} {n u : Nat} {Φ : zP} {ν : Nat → va_E} {S : Nat → Nat → Nat} {ch : Int32} {kp : Int32} {ac : Value} {β : Nat → Nat → Nat} {its : Nat → zI} {D : zD6} (hob : isOb ν kp ac) (hi : iS S) (hbk : isBk ν 17 β) (hD : dzB β its D) {τ : zτ} (hsh : isSh ν τ) {sh : Nat} (hsh3 : sh ≤ 3) {i : Int32} {N : Nat} (hN : N ≤ 20) : ∀ c k acc mo pr fa sc cs q, k + c = N → acc + 108 * c ≤ 3000 → mo ≤ S 0 3 → iX S pr fa → (∀ (cs' : Nat) (q' : Nat → Nat), Φ (some (.int (gaA S D τ sh i c k acc (mo, pr, fa) sc).1)) (pcc ν S (gaA S D τ sh i c k acc (mo, pr, fa) sc).2.2 ch (gaA S D τ sh i c k acc (mo, pr, fa) sc).2.1.1 cs' (gaA S D τ sh i c k acc (mo, pr, fa) sc).2.1.2.1 (gaA S D τ sh i c k acc (mo, pr, fa) sc).2.1.2.2 q')) →
    zW G 6 M_Wb_goAll 41 [.ref 4, .int (nI sh), .int i, .int (nI N), .int (nI 0), .int (nI acc), .int (nI k), .retAddr 0] [] n u (pcc ν S sc ch mo cs pr fa q) n u Φ
  | 0, k, acc, mo, pr, fa, sc, cs, q, e, ha, hmo, hx, KK => by
    refine z_il6 (pc' := 43) 23 rfl rfl ?_
    refine z_il3 (pc' := 44) 24 rfl rfl ?_
    first | refine z_icmp_geN (pc' := 47) 25 rfl rfl (tgt := 117) rfl (by omega) (by omega) (fun h44 => ?_) (fun h44 => ?_) | refine z_icmp_ge (pc' := 47) 25 rfl rfl (tgt := 117) rfl (fun h44 => ?_) (fun h44 => ?_)
    · refine z_il5 (pc' := 119) 63 rfl rfl ?_
      exact z_ireturn 64 rfl rfl (by first | rfl | exact zbo_nar) rfl rfl (by exact KK _ _)
    · exfalso; omega
  | c + 1, k, acc, mo, pr, fa, sc, cs, q, e, ha, hmo, hx, KK => by
    have hi3 := hi.2.2.2.2.1
    have hi0 := hi.1
    have hb40 := (hsh.2.2.2 sh).2
    have hob0 := hob
    have h81 := hsh.1
    have h82 := hsh.2.1
    have h83 := hsh.2.2.1
    unfold isOb at hob
    have hwl := fun act => wor_le hi (D := D) (act := act) (t := (mo, pr, fa))
    refine z_il6 (pc' := 43) 23 rfl rfl ?_
    refine z_il3 (pc' := 44) 24 rfl rfl ?_
    first | refine z_icmp_geN (pc' := 47) 25 rfl rfl (tgt := 117) rfl (by omega) (by omega) (fun h44 => ?_) (fun h44 => ?_) | refine z_icmp_ge (pc' := 47) 25 rfl rfl (tgt := 117) rfl (fun h44 => ?_) (fun h44 => ?_)
    · exfalso; omega
    · refine z_al0 (pc' := 48) 26 rfl rfl ?_
      refine z_il1 (pc' := 49) 27 rfl rfl ?_
      refine z_il2 (pc' := 50) 28 rfl rfl ?_
      refine z_il6 (pc' := 52) 29 rfl rfl ?_
      refine z_iadd (pc' := 53) 30 rfl rfl ?_
      refine z_callV1 (pc' := 56) 31 rfl rfl k_Wb_275 (by first | exact pcc_5 | exact pcc_6 | exact pcc_7 | exact pcc_8 | exact pcc_9 | exact pcc_10 | exact pcc_11 | exact pcc_12 | exact pcc_13 | exact pcc_14 | exact pcc_15 | exact pcc_22 | (rw [pcc_o (by decide)]; assumption)) (c_Wb_hasItem (isSh_fr hsh (fun i a b => pcc_o (by omega))) (isOb_fr hob0 (pcc_o (by decide))) hsh3 _) (by decide) (Nat.le_refl _) (Nat.le_refl _) rfl rfl (Nat.le_of_ble_eq_true rfl) ?_
      first | refine z_if_neB (pc' := 59) 32 rfl rfl (tgt := 62) rfl (fun h56 => ?_) (fun h56 => ?_) | refine z_if_neN (pc' := 59) 32 rfl rfl (tgt := 62) rfl (by omega) (fun h56 => ?_) (fun h56 => ?_) | refine z_if_ne (pc' := 59) 32 rfl rfl (tgt := 62) rfl (fun h56 => ?_) (fun h56 => ?_)
      · obtain ⟨m, hm, em⟩ := z_in h56 (by omega)
        have e2 : tN (i + nI k) = m := by rw [em, tN_n (by omega)]
        refine z_al0 (pc' := 63) 35 rfl rfl ?_
        refine z_getf (pc' := 66) 36 rfl rfl f_Wb_54_11 (by first | exact pcc_5 | exact pcc_6 | exact pcc_7 | exact pcc_8 | exact pcc_9 | exact pcc_10 | exact pcc_11 | exact pcc_12 | exact pcc_13 | exact pcc_14 | exact pcc_15 | exact pcc_22 | (rw [pcc_o (by decide)]; assumption)) (by rfl) ?_
        refine z_il1 (pc' := 67) 37 rfl rfl ?_
        refine z_bipush (v := nI 40) (by decide) (pc' := 69) 38 rfl rfl ?_
        first | refine z_imulN (pc' := 70) 39 rfl rfl ?_ | refine z_imul (pc' := 70) 39 rfl rfl ?_
        refine z_il2 (pc' := 71) 40 rfl rfl ?_
        refine z_iadd (pc' := 72) 41 rfl rfl ?_
        refine z_il6 (pc' := 74) 42 rfl rfl ?_
        refine z_iadd (pc' := 75) 43 rfl rfl ?_
        rw [add_ix em]
        refine z_iald (pc' := 76) 44 rfl rfl (by first | exact pcc_5 | exact pcc_6 | exact pcc_7 | exact pcc_8 | exact pcc_9 | exact pcc_10 | exact pcc_11 | exact pcc_12 | exact pcc_13 | exact pcc_14 | exact pcc_15 | exact pcc_22 | (rw [pcc_o (by decide)]; assumption)) (by omega) (by decide) ?_
        refine z_is7 rfl rfl (pc' := 78) 45 rfl rfl ?_
        refine z_al0 (pc' := 79) 46 rfl rfl ?_
        refine z_getf (pc' := 82) 47 rfl rfl f_Wb_10_11 (by first | exact pcc_5 | exact pcc_6 | exact pcc_7 | exact pcc_8 | exact pcc_9 | exact pcc_10 | exact pcc_11 | exact pcc_12 | exact pcc_13 | exact pcc_14 | exact pcc_15 | exact pcc_22 | (rw [pcc_o (by decide)]; assumption)) (by rfl) ?_
        refine z_il7 (pc' := 84) 48 rfl rfl ?_
        refine z_callV1 (pc' := 87) 49 rfl rfl k_Wb_285 (by first | exact pcc_5 | exact pcc_6 | exact pcc_7 | exact pcc_8 | exact pcc_9 | exact pcc_10 | exact pcc_11 | exact pcc_12 | exact pcc_13 | exact pcc_14 | exact pcc_15 | exact pcc_22 | (rw [pcc_o (by decide)]; assumption)) (c_Co_isAct isCo_pcc hi _) (by decide) (Nat.le_refl _) (Nat.le_refl _) rfl rfl (Nat.le_of_ble_eq_true rfl) ?_
        first | refine z_if_eqB (pc' := 90) 50 rfl rfl (tgt := 111) rfl (fun h87 => ?_) (fun h87 => ?_) | refine z_if_eqN (pc' := 90) 50 rfl rfl (tgt := 111) rfl (by omega) (fun h87 => ?_) (fun h87 => ?_) | refine z_if_eq (pc' := 90) 50 rfl rfl (tgt := 111) rfl (fun h87 => ?_) (fun h87 => ?_)
        · first | refine z_inc6N rfl rfl (pc' := 114) 61 rfl rfl ?_ | refine z_inc6 rfl rfl rfl (pc' := 114) 61 rfl rfl ?_
          refine z_goto 62 rfl (tgt := 41) rfl ?_
          refine z_less7 ?_
          rw [gaA, if_pos h56, e2, if_neg (fun z => h87 z.1)] at KK
          exact l_Wb_goAll hob0 hi hbk hD hsh hsh3 hN c (k + 1) _ _ _ _ _ _ _ (by omega) (by omega) hmo hx KK
        · refine z_al0 (pc' := 91) 51 rfl rfl ?_
          refine z_getf (pc' := 94) 52 rfl rfl f_Wb_10_11 (by first | exact pcc_5 | exact pcc_6 | exact pcc_7 | exact pcc_8 | exact pcc_9 | exact pcc_10 | exact pcc_11 | exact pcc_12 | exact pcc_13 | exact pcc_14 | exact pcc_15 | exact pcc_22 | (rw [pcc_o (by decide)]; assumption)) (by rfl) ?_
          refine z_callV1 (pc' := 97) 53 rfl rfl k_Wb_155 (by first | exact pcc_5 | exact pcc_6 | exact pcc_7 | exact pcc_8 | exact pcc_9 | exact pcc_10 | exact pcc_11 | exact pcc_12 | exact pcc_13 | exact pcc_14 | exact pcc_15 | exact pcc_22 | (rw [pcc_o (by decide)]; assumption)) (c_Co_isOver hi (by omega)) (by decide) (Nat.le_refl _) (Nat.le_refl _) rfl rfl (Nat.le_of_ble_eq_true rfl) ?_
          first | refine z_if_neB (pc' := 100) 54 rfl rfl (tgt := 111) rfl (fun h97 => ?_) (fun h97 => ?_) | refine z_if_neN (pc' := 100) 54 rfl rfl (tgt := 111) rfl (by omega) (fun h97 => ?_) (fun h97 => ?_) | refine z_if_ne (pc' := 100) 54 rfl rfl (tgt := 111) rfl (fun h97 => ?_) (fun h97 => ?_)
          · first | refine z_inc6N rfl rfl (pc' := 114) 61 rfl rfl ?_ | refine z_inc6 rfl rfl rfl (pc' := 114) 61 rfl rfl ?_
            refine z_goto 62 rfl (tgt := 41) rfl ?_
            refine z_less7 ?_
            rw [gaA, if_pos h56, e2, if_neg (fun z => by have := z.2; have : mo < S 0 3 := this; omega)] at KK
            exact l_Wb_goAll hob0 hi hbk hD hsh hsh3 hN c (k + 1) _ _ _ _ _ _ _ (by omega) (by omega) hmo hx KK
          · obtain ⟨a1, ha0, ha1, ea⟩ := z_wi (a := 0) h87 (by omega) (by decide)
            have hwa : (mon S D mo a1 pr fa).2.2.2.2 ≤ 108 := hwl a1
            rw [ea]
            refine z_il5 (pc' := 102) 55 rfl rfl ?_
            refine z_al0 (pc' := 103) 56 rfl rfl ?_
            refine z_il7 (pc' := 105) 57 rfl rfl ?_
            refine z_callVX1 (pc' := 108) 58 rfl rfl k_Wb_177 (by first | exact pcc_5 | exact pcc_6 | exact pcc_7 | exact pcc_8 | exact pcc_9 | exact pcc_10 | exact pcc_11 | exact pcc_12 | exact pcc_13 | exact pcc_14 | exact pcc_15 | exact pcc_22 | (rw [pcc_o (by decide)]; assumption)) (c_Wb_passMonth (act := a1) hob0 hi hbk hD (by omega) (by omega) hx) (by decide) (Nat.le_refl _) (Nat.le_refl _) rfl rfl (Nat.le_of_ble_eq_true rfl) (fun q105 => ?_)
            first | refine z_iaddN (pc' := 109) 59 rfl rfl ?_ | refine z_iadd (pc' := 109) 59 rfl rfl ?_
            refine z_is5 rfl rfl (pc' := 111) 60 rfl rfl ?_
            first | refine z_inc6N rfl rfl (pc' := 114) 61 rfl rfl ?_ | refine z_inc6 rfl rfl rfl (pc' := 114) 61 rfl rfl ?_
            refine z_goto 62 rfl (tgt := 41) rfl ?_
            refine z_less7 ?_
            rw [gaA, if_pos h56, e2, if_pos ⟨h87, by show mo < S 0 3; omega⟩, ea, tN_n (by omega)] at KK
            exact l_Wb_goAll hob0 hi hbk hD hsh hsh3 hN c (k + 1) _ _ _ _ _ _ _ (by omega) (by omega) (by omega) (mon_ok hi hx) KK
      · refine z_bipush (v := (-12)) (by decide) (pc' := 61) 33 rfl rfl ?_
        exact z_ireturn 34 rfl rfl (by first | rfl | exact zbo_nar) rfl rfl (by rw [gaA, if_neg h56] at KK; exact KK _ _)
set_option maxHeartbeats 4000000 in
set_option maxRecDepth 100000 in
theorem c_Wb_goAll {G : zG} {n u : Nat} {μ : Nat → va_E} {κ : zκ} {τ : zτ} {kp : Int32} {ac : Value} (h : cst μ κ) (hsh : isSh μ τ) (hob : isOb μ kp ac) (x i v : Int32) :
    zMet G 7 M_Wb_goAll [.ref 4, .int x, .int i, .int v] n u μ n u (cK μ (f_goAll τ κ x i v)) := by
  obtain ⟨S, mo, pr, fa, sc, ch, rc, D⟩ := κ
  have hst := h
  obtain ⟨h1, ⟨cs, q, h2⟩, ⟨β, its, h3, h3a, h3b⟩, ⟨c23, h4⟩, h5⟩ := h
  have hk5 := h5
  obtain ⟨hi, hx, hmo, hrc⟩ := h5
  have hi0 := hi.1
  have hi1 := hi.2.1
  have hi2 := hi.2.2.1
  have hi3 := hi.2.2.2.2.1
  have hm16 : mo ≤ 16 := by omega
  have h81 := hsh.1
  have h82 := hsh.2.1
  have h83 := hsh.2.2.1
  refine z_start (lv := [.ref 4, .int x, .int i, .int v, .retAddr 0, .retAddr 0, .retAddr 0, .retAddr 0]) K_Wb_goAll rfl rfl (Nat.le_refl _) (Nat.le_refl _) (Nat.le_of_ble_eq_true rfl) rfl ?_
  have hob0 := hob
  unfold isOb at hob
  refine z_mu (pcc_id h1 h2).symm ?_
  refine z_il1 (pc' := 1) 0 rfl rfl ?_
  refine z_callS1 (pc' := 4) 1 rfl rfl k_Wb_272 (c_Wb_isSheet _) (by decide) (Nat.le_refl _) (Nat.le_refl _) rfl rfl (Nat.le_of_ble_eq_true rfl) ?_
  first | refine z_if_eqB (pc' := 7) 2 rfl rfl (tgt := 17) rfl (fun h4 => ?_) (fun h4 => ?_) | refine z_if_eqN (pc' := 7) 2 rfl rfl (tgt := 17) rfl (by omega) (fun h4 => ?_) (fun h4 => ?_) | refine z_if_eq (pc' := 7) 2 rfl rfl (tgt := 17) rfl (fun h4 => ?_) (fun h4 => ?_)
  · refine z_iconst (v := (-1)) (by decide) (pc' := 18) 8 rfl rfl ?_
    exact z_ireturn 9 rfl rfl (by first | rfl | exact zbo_nar) rfl rfl (by show cK μ _ _ _; rw [f_goAll, if_neg (fun z => h4 z.1)]; exact cK_of hst rfl rfl (hk5))
  · refine z_il3 (pc' := 8) 3 rfl rfl ?_
    refine z_iconst (v := nI 0) (by decide) (pc' := 9) 4 rfl rfl ?_
    refine z_bipush (v := nI 20) (by decide) (pc' := 11) 5 rfl rfl ?_
    refine z_callS1 (pc' := 14) 6 rfl rfl k_Wb_72 (c_Wb_within _ _ _) (by decide) (Nat.le_refl _) (Nat.le_refl _) rfl rfl (Nat.le_of_ble_eq_true rfl) ?_
    first | refine z_if_neB (pc' := 17) 7 rfl rfl (tgt := 19) rfl (fun h14 => ?_) (fun h14 => ?_) | refine z_if_neN (pc' := 17) 7 rfl rfl (tgt := 19) rfl (by omega) (fun h14 => ?_) (fun h14 => ?_) | refine z_if_ne (pc' := 17) 7 rfl rfl (tgt := 19) rfl (fun h14 => ?_) (fun h14 => ?_)
    · obtain ⟨x1, hx0, hx1, rfl⟩ := z_wi h4 (by decide) (by decide)
      obtain ⟨v1, hv0, hv1, rfl⟩ := z_wi h14 (by decide) (by decide)
      refine z_al0 (pc' := 20) 10 rfl rfl ?_
      refine z_il1 (pc' := 21) 11 rfl rfl ?_
      refine z_iconst (v := nI 0) (by decide) (pc' := 22) 12 rfl rfl ?_
      refine z_callV1 (pc' := 25) 13 rfl rfl k_Wb_282 (by first | exact pcc_5 | exact pcc_6 | exact pcc_7 | exact pcc_8 | exact pcc_9 | exact pcc_10 | exact pcc_11 | exact pcc_12 | exact pcc_13 | exact pcc_14 | exact pcc_15 | exact pcc_22 | (rw [pcc_o (by decide)]; assumption)) (c_Wb_refusalAs (y := 0) (isSh_fr hsh (fun i a b => pcc_o (by omega))) (isOb_fr hob0 (pcc_o (by decide))) hx1 (by decide)) (by decide) (Nat.le_refl _) (Nat.le_refl _) rfl rfl (Nat.le_of_ble_eq_true rfl) ?_
      refine z_is4 rfl rfl (pc' := 27) 14 rfl rfl ?_
      refine z_il4 (pc' := 29) 15 rfl rfl ?_
      first | refine z_if_eq (pc' := 32) 16 rfl rfl (tgt := 35) rfl (fun h29 => ?_) (fun h29 => ?_)
      · refine z_iconst (v := nI 0) (by decide) (pc' := 36) 19 rfl rfl ?_
        refine z_is5 rfl rfl (pc' := 38) 20 rfl rfl ?_
        refine z_iconst (v := nI 0) (by decide) (pc' := 39) 21 rfl rfl ?_
        refine z_is6 rfl rfl (pc' := 41) 22 rfl rfl ?_
        rw [h29]
        refine zW_dm (show 6 ≤ 7 by decide) ?_
        refine l_Wb_goAll hob0 hi h3 h3a hsh hx1 hv1 v1 0 0 mo pr fa sc cs q (Nat.zero_add _) (by omega) hmo hx (fun cs9 q9 => ?_)
        show cK μ _ _ _; rw [f_goAll, if_pos ⟨h4, h14⟩, tN_n (show x1 < 2 ^ 31 by omega), tN_n (show v1 < 2 ^ 31 by omega), if_pos (show rfS τ x1 1 = nI 0 from h29)]; exact cK_of hst rfl rfl (⟨hi, (gaA_ok hi _ _ _ (mo, pr, fa) _ hmo hx).2, (gaA_ok hi _ _ _ (mo, pr, fa) _ hmo hx).1, hrc⟩)
      · refine z_il4 (pc' := 34) 17 rfl rfl ?_
        exact z_ireturn 18 rfl rfl (by first | rfl | exact zbo_nar) rfl rfl (by show cK μ _ _ _; rw [f_goAll, if_pos ⟨h4, h14⟩, tN_n (show x1 < 2 ^ 31 by omega), if_neg (show ¬ rfS τ x1 1 = nI 0 from h29)]; exact cK_of hst rfl rfl (hk5))
    · refine z_iconst (v := (-1)) (by decide) (pc' := 18) 8 rfl rfl ?_
      exact z_ireturn 9 rfl rfl (by first | rfl | exact zbo_nar) rfl rfl (by show cK μ _ _ _; rw [f_goAll, if_neg (fun z => h14 z.2)]; exact cK_of hst rfl rfl (hk5))
set_option maxHeartbeats 4000000 in
set_option maxRecDepth 100000 in
theorem l_Wb_wouldBe {G : zG} {n u : Nat} {Φ : zP} {ν : Nat → va_E} {S : Nat → Nat → Nat} {sc ch : Int32} {mo cs : Nat} {pr fa q : Nat → Nat} {kp : Int32} {ac : Value} {β : Nat → Nat → Nat} {its : Nat → zI} {D : zD6} (hob : isOb ν kp ac) (hi : iS S) (hbk : isBk ν 17 β) (hD : dzB β its D) {τ : zτ} (hsh : isSh ν τ) {sh : Nat} (hsh3 : sh ≤ 3) {i : Int32} {N : Nat} (hN : N ≤ 20) : ∀ c k acc mt ct pt ft (qt : Nat → Nat), k + c = N → acc + 108 * c ≤ 3000 → mt ≤ 16 → iX S pt ft → (∀ mt' ct' pt' ft' qt', Φ (some (.int (wbA S D τ sh i c k acc (mt, pt, ft)))) (pcr (pcc ν S sc ch mo cs pr fa q) 43 mt' ct' pt' ft' qt')) →
    zW G 5 M_Wb_wouldBe 55 [.ref 4, .int (nI sh), .int i, .int (nI N), .int (nI 0), .int (nI acc), .int (nI k), .retAddr 0] [] n u (pcr (pcc ν S sc ch mo cs pr fa q) 43 mt ct pt ft qt) n u Φ
  | 0, k, acc, mt, ct, pt, ft, qt, e, ha, hm, hx, KK => by
    refine z_il6 (pc' := 57) 29 rfl rfl ?_
    refine z_il3 (pc' := 58) 30 rfl rfl ?_
    first | refine z_icmp_geN (pc' := 61) 31 rfl rfl (tgt := 148) rfl (by omega) (by omega) (fun h58 => ?_) (fun h58 => ?_) | refine z_icmp_ge (pc' := 61) 31 rfl rfl (tgt := 148) rfl (fun h58 => ?_) (fun h58 => ?_)
    · refine z_il5 (pc' := 150) 77 rfl rfl ?_
      exact z_ireturn 78 rfl rfl (by first | rfl | exact zbo_nar) rfl rfl (by exact KK _ _ _ _ _)
    · exfalso; omega
  | c + 1, k, acc, mt, ct, pt, ft, qt, e, ha, hm, hx, KK => by
    have hi3 := hi.2.2.2.2.1
    have hi0 := hi.1
    have hb40 := (hsh.2.2.2 sh).2
    have hob0 := hob
    have h81 := hsh.1
    have h82 := hsh.2.1
    have h83 := hsh.2.2.1
    unfold isOb at hob
    have hwl := fun act => wor_le hi (D := D) (act := act) (t := (mt, pt, ft))
    refine z_il6 (pc' := 57) 29 rfl rfl ?_
    refine z_il3 (pc' := 58) 30 rfl rfl ?_
    first | refine z_icmp_geN (pc' := 61) 31 rfl rfl (tgt := 148) rfl (by omega) (by omega) (fun h58 => ?_) (fun h58 => ?_) | refine z_icmp_ge (pc' := 61) 31 rfl rfl (tgt := 148) rfl (fun h58 => ?_) (fun h58 => ?_)
    · exfalso; omega
    · refine z_al0 (pc' := 62) 32 rfl rfl ?_
      refine z_il1 (pc' := 63) 33 rfl rfl ?_
      refine z_il2 (pc' := 64) 34 rfl rfl ?_
      refine z_il6 (pc' := 66) 35 rfl rfl ?_
      refine z_iadd (pc' := 67) 36 rfl rfl ?_
      refine z_callV1 (pc' := 70) 37 rfl rfl k_Wb_275 (by first | exact pcr_0 | exact pcr_1 | exact pcr_2 | exact pcr_3 | (rw [pcr_o (by decide)]; first | exact pcc_5 | exact pcc_6 | exact pcc_7 | exact pcc_8 | exact pcc_9 | exact pcc_10 | exact pcc_11 | exact pcc_12 | exact pcc_13 | exact pcc_14 | exact pcc_15 | exact pcc_22 | (rw [pcc_o (by decide)]; assumption))) (c_Wb_hasItem (isSh_fr hsh (fun i a b => by rw [pcr_o (by omega), pcc_o (by omega)])) (isOb_fr hob0 (by rw [pcr_o (by decide), pcc_o (by decide)])) hsh3 _) (by decide) (Nat.le_refl _) (Nat.le_refl _) rfl rfl (Nat.le_of_ble_eq_true rfl) ?_
      first | refine z_if_neB (pc' := 73) 38 rfl rfl (tgt := 76) rfl (fun h70 => ?_) (fun h70 => ?_) | refine z_if_neN (pc' := 73) 38 rfl rfl (tgt := 76) rfl (by omega) (fun h70 => ?_) (fun h70 => ?_) | refine z_if_ne (pc' := 73) 38 rfl rfl (tgt := 76) rfl (fun h70 => ?_) (fun h70 => ?_)
      · obtain ⟨m, hm, em⟩ := z_in h70 (by omega)
        have e2 : tN (i + nI k) = m := by rw [em, tN_n (by omega)]
        refine z_al0 (pc' := 77) 41 rfl rfl ?_
        refine z_getf (pc' := 80) 42 rfl rfl f_Wb_54_11 (by first | exact pcr_0 | exact pcr_1 | exact pcr_2 | exact pcr_3 | (rw [pcr_o (by decide)]; first | exact pcc_5 | exact pcc_6 | exact pcc_7 | exact pcc_8 | exact pcc_9 | exact pcc_10 | exact pcc_11 | exact pcc_12 | exact pcc_13 | exact pcc_14 | exact pcc_15 | exact pcc_22 | (rw [pcc_o (by decide)]; assumption))) (by rfl) ?_
        refine z_il1 (pc' := 81) 43 rfl rfl ?_
        refine z_bipush (v := nI 40) (by decide) (pc' := 83) 44 rfl rfl ?_
        first | refine z_imulN (pc' := 84) 45 rfl rfl ?_ | refine z_imul (pc' := 84) 45 rfl rfl ?_
        refine z_il2 (pc' := 85) 46 rfl rfl ?_
        refine z_iadd (pc' := 86) 47 rfl rfl ?_
        refine z_il6 (pc' := 88) 48 rfl rfl ?_
        refine z_iadd (pc' := 89) 49 rfl rfl ?_
        rw [add_ix em]
        refine z_iald (pc' := 90) 50 rfl rfl (by first | exact pcr_0 | exact pcr_1 | exact pcr_2 | exact pcr_3 | (rw [pcr_o (by decide)]; first | exact pcc_5 | exact pcc_6 | exact pcc_7 | exact pcc_8 | exact pcc_9 | exact pcc_10 | exact pcc_11 | exact pcc_12 | exact pcc_13 | exact pcc_14 | exact pcc_15 | exact pcc_22 | (rw [pcc_o (by decide)]; assumption))) (by omega) (by decide) ?_
        refine z_is7 rfl rfl (pc' := 92) 51 rfl rfl ?_
        refine z_al0 (pc' := 93) 52 rfl rfl ?_
        refine z_getf (pc' := 96) 53 rfl rfl f_Wb_10_11 (by first | exact pcr_0 | exact pcr_1 | exact pcr_2 | exact pcr_3 | (rw [pcr_o (by decide)]; first | exact pcc_5 | exact pcc_6 | exact pcc_7 | exact pcc_8 | exact pcc_9 | exact pcc_10 | exact pcc_11 | exact pcc_12 | exact pcc_13 | exact pcc_14 | exact pcc_15 | exact pcc_22 | (rw [pcc_o (by decide)]; assumption))) (by rfl) ?_
        refine z_il7 (pc' := 98) 54 rfl rfl ?_
        refine z_callV1 (pc' := 101) 55 rfl rfl k_Wb_285 (by first | exact pcr_0 | exact pcr_1 | exact pcr_2 | exact pcr_3 | (rw [pcr_o (by decide)]; first | exact pcc_5 | exact pcc_6 | exact pcc_7 | exact pcc_8 | exact pcc_9 | exact pcc_10 | exact pcc_11 | exact pcc_12 | exact pcc_13 | exact pcc_14 | exact pcc_15 | exact pcc_22 | (rw [pcc_o (by decide)]; assumption))) (c_Co_isAct isCo_pcr43 hi _) (by decide) (Nat.le_refl _) (Nat.le_refl _) rfl rfl (Nat.le_of_ble_eq_true rfl) ?_
        first | refine z_if_eqB (pc' := 104) 56 rfl rfl (tgt := 121) rfl (fun h101 => ?_) (fun h101 => ?_) | refine z_if_eqN (pc' := 104) 56 rfl rfl (tgt := 121) rfl (by omega) (fun h101 => ?_) (fun h101 => ?_) | refine z_if_eq (pc' := 104) 56 rfl rfl (tgt := 121) rfl (fun h101 => ?_) (fun h101 => ?_)
        · refine z_bipush (v := (-4)) (by decide) (pc' := 123) 64 rfl rfl ?_
          exact z_ireturn 65 rfl rfl (by first | rfl | exact zbo_nar) rfl rfl (by rw [wbA, if_pos h70, e2, if_neg (fun z => h101 z.1)] at KK; exact KK _ _ _ _ _)
        · refine z_al0 (pc' := 105) 57 rfl rfl ?_
          refine z_getf (pc' := 108) 58 rfl rfl f_Wb_22_11 (by first | exact pcr_0 | exact pcr_1 | exact pcr_2 | exact pcr_3 | (rw [pcr_o (by decide)]; first | exact pcc_5 | exact pcc_6 | exact pcc_7 | exact pcc_8 | exact pcc_9 | exact pcc_10 | exact pcc_11 | exact pcc_12 | exact pcc_13 | exact pcc_14 | exact pcc_15 | exact pcc_22 | (rw [pcc_o (by decide)]; assumption))) (by rfl) ?_
          refine z_getf (pc' := 111) 59 rfl rfl f_Wb_135_4 (by first | exact pcr_0 | exact pcr_1 | exact pcr_2 | exact pcr_3 | (rw [pcr_o (by decide)]; first | exact pcc_5 | exact pcc_6 | exact pcc_7 | exact pcc_8 | exact pcc_9 | exact pcc_10 | exact pcc_11 | exact pcc_12 | exact pcc_13 | exact pcc_14 | exact pcc_15 | exact pcc_22 | (rw [pcc_o (by decide)]; assumption))) (by rfl) ?_
          refine z_al0 (pc' := 112) 60 rfl rfl ?_
          refine z_getf (pc' := 115) 61 rfl rfl f_Wb_10_11 (by first | exact pcr_0 | exact pcr_1 | exact pcr_2 | exact pcr_3 | (rw [pcr_o (by decide)]; first | exact pcc_5 | exact pcc_6 | exact pcc_7 | exact pcc_8 | exact pcc_9 | exact pcc_10 | exact pcc_11 | exact pcc_12 | exact pcc_13 | exact pcc_14 | exact pcc_15 | exact pcc_22 | (rw [pcc_o (by decide)]; assumption))) (by rfl) ?_
          refine z_getf (pc' := 118) 62 rfl rfl f_Wb_149_3 (by first | exact pcr_0 | exact pcr_1 | exact pcr_2 | exact pcr_3 | (rw [pcr_o (by decide)]; first | exact pcc_5 | exact pcc_6 | exact pcc_7 | exact pcc_8 | exact pcc_9 | exact pcc_10 | exact pcc_11 | exact pcc_12 | exact pcc_13 | exact pcc_14 | exact pcc_15 | exact pcc_22 | (rw [pcc_o (by decide)]; assumption))) (by rfl) ?_
          first | refine z_icmp_ltN (pc' := 121) 63 rfl rfl (tgt := 124) rfl (by omega) (by omega) (fun h118 => ?_) (fun h118 => ?_) | refine z_icmp_lt (pc' := 121) 63 rfl rfl (tgt := 124) rfl (fun h118 => ?_) (fun h118 => ?_)
          · obtain ⟨a1, ha0, ha1, ea⟩ := z_wi (a := 0) h101 (by omega) (by decide)
            have hwa : (mon S D mt a1 pt ft).2.2.2.2 ≤ 108 := hwl a1
            rw [ea]
            refine z_il5 (pc' := 126) 66 rfl rfl ?_
            refine z_al0 (pc' := 127) 67 rfl rfl ?_
            refine z_getf (pc' := 130) 68 rfl rfl f_Wb_22_11 (by first | exact pcr_0 | exact pcr_1 | exact pcr_2 | exact pcr_3 | (rw [pcr_o (by decide)]; first | exact pcc_5 | exact pcc_6 | exact pcc_7 | exact pcc_8 | exact pcc_9 | exact pcc_10 | exact pcc_11 | exact pcc_12 | exact pcc_13 | exact pcc_14 | exact pcc_15 | exact pcc_22 | (rw [pcc_o (by decide)]; assumption))) (by rfl) ?_
            refine z_al0 (pc' := 131) 69 rfl rfl ?_
            refine z_getf (pc' := 134) 70 rfl rfl f_Wb_10_11 (by first | exact pcr_0 | exact pcr_1 | exact pcr_2 | exact pcr_3 | (rw [pcr_o (by decide)]; first | exact pcc_5 | exact pcc_6 | exact pcc_7 | exact pcc_8 | exact pcc_9 | exact pcc_10 | exact pcc_11 | exact pcc_12 | exact pcc_13 | exact pcc_14 | exact pcc_15 | exact pcc_22 | (rw [pcc_o (by decide)]; assumption))) (by rfl) ?_
            refine z_il7 (pc' := 136) 71 rfl rfl ?_
            refine z_callVX1 (pc' := 139) 72 rfl rfl k_Wb_181 (by first | exact pcr_0 | exact pcr_1 | exact pcr_2 | exact pcr_3 | (rw [pcr_o (by decide)]; first | exact pcc_5 | exact pcc_6 | exact pcc_7 | exact pcc_8 | exact pcc_9 | exact pcc_10 | exact pcc_11 | exact pcc_12 | exact pcc_13 | exact pcc_14 | exact pcc_15 | exact pcc_22 | (rw [pcc_o (by decide)]; assumption))) (c_Cr_passes (act := a1) isCo_pcc hi (Or.inr (by decide)) (isBk_pcc hbk) hD (by omega) (by omega) hx) (by decide) (Nat.le_refl _) (Nat.le_refl _) rfl rfl (Nat.le_of_ble_eq_true rfl) (fun q136 => ?_)
            first | refine z_iaddN (pc' := 140) 73 rfl rfl ?_ | refine z_iadd (pc' := 140) 73 rfl rfl ?_
            refine z_is5 rfl rfl (pc' := 142) 74 rfl rfl ?_
            first | refine z_inc6N rfl rfl (pc' := 145) 75 rfl rfl ?_ | refine z_inc6 rfl rfl rfl (pc' := 145) 75 rfl rfl ?_
            refine z_goto 76 rfl (tgt := 55) rfl ?_
            refine z_less7 ?_
            rw [wbA, if_pos h70, e2, if_pos ⟨h101, by show mt < S 0 3; omega⟩, ea, tN_n (by omega)] at KK
            exact l_Wb_wouldBe hob0 hi hbk hD hsh hsh3 hN c (k + 1) _ _ _ _ _ _ (by omega) (by omega) (by omega) (mon_ok hi hx) KK
          · refine z_bipush (v := (-4)) (by decide) (pc' := 123) 64 rfl rfl ?_
            exact z_ireturn 65 rfl rfl (by first | rfl | exact zbo_nar) rfl rfl (by rw [wbA, if_pos h70, e2, if_neg (fun z => by have := z.2; have : mt < S 0 3 := this; omega)] at KK; exact KK _ _ _ _ _)
      · refine z_bipush (v := (-12)) (by decide) (pc' := 75) 39 rfl rfl ?_
        exact z_ireturn 40 rfl rfl (by first | rfl | exact zbo_nar) rfl rfl (by rw [wbA, if_neg h70] at KK; exact KK _ _ _ _ _)
set_option maxHeartbeats 4000000 in
set_option maxRecDepth 100000 in
theorem c_Wb_wouldBe {G : zG} {n u : Nat} {μ : Nat → va_E} {κ : zκ} {τ : zτ} {kp : Int32} {ac : Value} (h : cst μ κ) (hsh : isSh μ τ) (hob : isOb μ kp ac) (htr : isTr μ) (x i v : Int32) :
    zMet G 6 M_Wb_wouldBe [.ref 4, .int x, .int i, .int v] n u μ n u (cKt μ (f_wouldBe τ κ x i v, κ)) := by
  obtain ⟨S, mo, pr, fa, sc, ch, rc, D⟩ := κ
  have hst := h
  obtain ⟨h1, ⟨cs, q, h2⟩, ⟨β, its, h3, h3a, h3b⟩, ⟨c23, h4⟩, h5⟩ := h
  have hk5 := h5
  obtain ⟨hi, hx, hmo, hrc⟩ := h5
  have hi0 := hi.1
  have hi1 := hi.2.1
  have hi2 := hi.2.2.1
  have hi3 := hi.2.2.2.2.1
  have hm16 : mo ≤ 16 := by omega
  have h81 := hsh.1
  have h82 := hsh.2.1
  have h83 := hsh.2.2.1
  refine z_start (lv := [.ref 4, .int x, .int i, .int v, .retAddr 0, .retAddr 0, .retAddr 0, .retAddr 0]) K_Wb_wouldBe rfl rfl (Nat.le_refl _) (Nat.le_refl _) (Nat.le_of_ble_eq_true rfl) rfl ?_
  have hob0 := hob
  unfold isOb at hob
  obtain ⟨mt, ct, pt, ft, qt, htr⟩ := htr
  refine z_mu (show μ = pcr (pcc μ S sc ch mo cs pr fa q) 43 mt ct pt ft qt by rw [pcc_id h1 h2, pcr_id htr]) ?_
  refine z_il1 (pc' := 1) 0 rfl rfl ?_
  refine z_callS1 (pc' := 4) 1 rfl rfl k_Wb_272 (c_Wb_isSheet _) (by decide) (Nat.le_refl _) (Nat.le_refl _) rfl rfl (Nat.le_of_ble_eq_true rfl) ?_
  first | refine z_if_eqB (pc' := 7) 2 rfl rfl (tgt := 17) rfl (fun h4 => ?_) (fun h4 => ?_) | refine z_if_eqN (pc' := 7) 2 rfl rfl (tgt := 17) rfl (by omega) (fun h4 => ?_) (fun h4 => ?_) | refine z_if_eq (pc' := 7) 2 rfl rfl (tgt := 17) rfl (fun h4 => ?_) (fun h4 => ?_)
  · refine z_iconst (v := (-1)) (by decide) (pc' := 18) 8 rfl rfl ?_
    exact z_ireturn 9 rfl rfl (by first | rfl | exact zbo_nar) rfl rfl (by show cKt μ _ _ _; rw [f_wouldBe, if_neg (fun z => h4 z.1)]; exact cKt_of hst rfl rfl (hk5))
  · refine z_il3 (pc' := 8) 3 rfl rfl ?_
    refine z_iconst (v := nI 0) (by decide) (pc' := 9) 4 rfl rfl ?_
    refine z_bipush (v := nI 20) (by decide) (pc' := 11) 5 rfl rfl ?_
    refine z_callS1 (pc' := 14) 6 rfl rfl k_Wb_72 (c_Wb_within _ _ _) (by decide) (Nat.le_refl _) (Nat.le_refl _) rfl rfl (Nat.le_of_ble_eq_true rfl) ?_
    first | refine z_if_neB (pc' := 17) 7 rfl rfl (tgt := 19) rfl (fun h14 => ?_) (fun h14 => ?_) | refine z_if_neN (pc' := 17) 7 rfl rfl (tgt := 19) rfl (by omega) (fun h14 => ?_) (fun h14 => ?_) | refine z_if_ne (pc' := 17) 7 rfl rfl (tgt := 19) rfl (fun h14 => ?_) (fun h14 => ?_)
    · obtain ⟨x1, hx0, hx1, rfl⟩ := z_wi h4 (by decide) (by decide)
      obtain ⟨v1, hv0, hv1, rfl⟩ := z_wi h14 (by decide) (by decide)
      refine z_al0 (pc' := 20) 10 rfl rfl ?_
      refine z_il1 (pc' := 21) 11 rfl rfl ?_
      refine z_iconst (v := nI 0) (by decide) (pc' := 22) 12 rfl rfl ?_
      refine z_callV1 (pc' := 25) 13 rfl rfl k_Wb_282 (by first | exact pcr_0 | exact pcr_1 | exact pcr_2 | exact pcr_3 | (rw [pcr_o (by decide)]; first | exact pcc_5 | exact pcc_6 | exact pcc_7 | exact pcc_8 | exact pcc_9 | exact pcc_10 | exact pcc_11 | exact pcc_12 | exact pcc_13 | exact pcc_14 | exact pcc_15 | exact pcc_22 | (rw [pcc_o (by decide)]; assumption))) (c_Wb_refusalAs (y := 0) (isSh_fr hsh (fun i a b => by rw [pcr_o (by omega), pcc_o (by omega)])) (isOb_fr hob0 (by rw [pcr_o (by decide), pcc_o (by decide)])) hx1 (by decide)) (by decide) (Nat.le_refl _) (Nat.le_refl _) rfl rfl (Nat.le_of_ble_eq_true rfl) ?_
      refine z_is4 rfl rfl (pc' := 27) 14 rfl rfl ?_
      refine z_il4 (pc' := 29) 15 rfl rfl ?_
      first | refine z_if_eq (pc' := 32) 16 rfl rfl (tgt := 35) rfl (fun h29 => ?_) (fun h29 => ?_)
      · refine z_al0 (pc' := 36) 19 rfl rfl ?_
        refine z_getf (pc' := 39) 20 rfl rfl f_Wb_22_11 (by first | exact pcr_0 | exact pcr_1 | exact pcr_2 | exact pcr_3 | (rw [pcr_o (by decide)]; first | exact pcc_5 | exact pcc_6 | exact pcc_7 | exact pcc_8 | exact pcc_9 | exact pcc_10 | exact pcc_11 | exact pcc_12 | exact pcc_13 | exact pcc_14 | exact pcc_15 | exact pcc_22 | (rw [pcc_o (by decide)]; assumption))) (by rfl) ?_
        refine z_al0 (pc' := 40) 21 rfl rfl ?_
        refine z_getf (pc' := 43) 22 rfl rfl f_Wb_10_11 (by first | exact pcr_0 | exact pcr_1 | exact pcr_2 | exact pcr_3 | (rw [pcr_o (by decide)]; first | exact pcc_5 | exact pcc_6 | exact pcc_7 | exact pcc_8 | exact pcc_9 | exact pcc_10 | exact pcc_11 | exact pcc_12 | exact pcc_13 | exact pcc_14 | exact pcc_15 | exact pcc_22 | (rw [pcc_o (by decide)]; assumption))) (by rfl) ?_
        refine z_getr (pc' := 46) 23 rfl rfl f_Wb_97_3 (by first | exact pcr_0 | exact pcr_1 | exact pcr_2 | exact pcr_3 | (rw [pcr_o (by decide)]; first | exact pcc_5 | exact pcc_6 | exact pcc_7 | exact pcc_8 | exact pcc_9 | exact pcc_10 | exact pcc_11 | exact pcc_12 | exact pcc_13 | exact pcc_14 | exact pcc_15 | exact pcc_22 | (rw [pcc_o (by decide)]; assumption))) (by rfl) ?_
        refine z_callV0 (pc' := 49) 24 rfl rfl k_Wb_184 (by first | exact pcr_0 | exact pcr_1 | exact pcr_2 | exact pcr_3 | (rw [pcr_o (by decide)]; first | exact pcc_5 | exact pcc_6 | exact pcc_7 | exact pcc_8 | exact pcc_9 | exact pcc_10 | exact pcc_11 | exact pcc_12 | exact pcc_13 | exact pcc_14 | exact pcc_15 | exact pcc_22 | (rw [pcc_o (by decide)]; assumption))) (c_Cr_copyFrom isCr_pcc (Or.inl (by decide))) (by decide) (Nat.le_refl _) (Nat.le_refl _) rfl rfl (Nat.le_of_ble_eq_true rfl) ?_
        refine z_iconst (v := nI 0) (by decide) (pc' := 50) 25 rfl rfl ?_
        refine z_is5 rfl rfl (pc' := 52) 26 rfl rfl ?_
        refine z_iconst (v := nI 0) (by decide) (pc' := 53) 27 rfl rfl ?_
        refine z_is6 rfl rfl (pc' := 55) 28 rfl rfl ?_
        rw [h29]
        refine zW_dm (show 5 ≤ 6 by decide) ?_
        refine l_Wb_wouldBe hob0 hi h3 h3a hsh hx1 hv1 v1 0 0 mo _ pr fa _ (Nat.zero_add _) (by omega) hm16 hx (fun mt9 ct9 pt9 ft9 qt9 => ?_)
        show cKt μ _ _ _; rw [f_wouldBe, if_pos ⟨h4, h14⟩, tN_n (show x1 < 2 ^ 31 by omega), tN_n (show v1 < 2 ^ 31 by omega), if_pos (show rfS τ x1 1 = nI 0 from h29)]; exact cKt_of hst rfl rfl (hk5)
      · refine z_il4 (pc' := 34) 17 rfl rfl ?_
        exact z_ireturn 18 rfl rfl (by first | rfl | exact zbo_nar) rfl rfl (by show cKt μ _ _ _; rw [f_wouldBe, if_pos ⟨h4, h14⟩, tN_n (show x1 < 2 ^ 31 by omega), if_neg (show ¬ rfS τ x1 1 = nI 0 from h29)]; exact cKt_of hst rfl rfl (hk5))
    · refine z_iconst (v := (-1)) (by decide) (pc' := 18) 8 rfl rfl ?_
      exact z_ireturn 9 rfl rfl (by first | rfl | exact zbo_nar) rfl rfl (by show cKt μ _ _ _; rw [f_wouldBe, if_neg (fun z => h14 z.2)]; exact cKt_of hst rfl rfl (hk5))
