/-! ===== months by lot ===== -/
noncomputable def nxC : Int32 → Int32 := Classical.choose (show ∃ f : Int32 → Int32, ∀ ch, f ch = ch * 1103515245 + nI 12345 from ⟨fun ch => ch * 1103515245 + nI 12345, fun _ => rfl⟩)
theorem nxC_eq (ch : Int32) : nxC ch = ch * 1103515245 + nI 12345 := Classical.choose_spec (show ∃ f : Int32 → Int32, ∀ ch, f ch = ch * 1103515245 + nI 12345 from ⟨fun ch => ch * 1103515245 + nI 12345, fun _ => rfl⟩) ch
def drw (S : Nat → Nat → Nat) (ch : Int32) : Nat := ch.toBitVec.toNat / 2 ^ 16 % (S 0 0 + 1)
theorem us16 (x : Int32) : (x.toUInt32 >>> ((nI 16).toUInt32 &&& Int32.toUInt32 31)).toInt32 = nI (x.toBitVec.toNat / 2 ^ 16) := by
  apply Int32.toBitVec_inj.mp
  apply BitVec.eq_of_toNat_eq
  rw [pk_ushr x _ 16 (by decide +kernel), pk_tn (by have := x.toBitVec.isLt; omega)]
theorem drw_le {S : Nat → Nat → Nat} (ch : Int32) : drw S ch ≤ S 0 0 := by
  have := Nat.mod_lt (ch.toBitVec.toNat / 2 ^ 16) (show 0 < S 0 0 + 1 by omega)
  unfold drw
  omega
noncomputable def f_lot : zκ → Int32 × zκ
  | (S, mo, pr, fa, sc, ch, rc, D) => if S 0 3 ≤ mo then (-4, (S, mo, pr, fa, sc, ch, rc, D)) else f_pass (S, mo, pr, fa, sc, nxC ch, rc, D) (drw S (nxC ch))
noncomputable def ltA (S : Nat → Nat → Nat) (D : zD6) : Nat → Nat → zT3 → Int32 → Nat × Int32
  | 0, a, _, ch => (a, ch)
  | j + 1, a, t, ch => ltA S D j (a + wor S D (drw S (nxC ch)) t) (stp S D (drw S (nxC ch)) t) (nxC ch)
noncomputable def ofA (S : Nat → Nat → Nat) (D : zD6) (v : Nat) (t : zT3) : Nat → Nat → Int32 → Nat
  | 0, c, _ => c
  | n + 1, c, ch => ofA S D v t n (c + (if v ≤ (ltA S D (S 0 3 - t.1) 0 t ch).1 then 1 else 0)) (ltA S D (S 0 3 - t.1) 0 t ch).2
noncomputable def f_often : zκ → Int32 → Int32 → Int32 × zκ
  | (S, mo, pr, fa, sc, ch, rc, D), x, y => (if nI 1 ≤ x ∧ x ≤ nI 40 then (if nI 0 ≤ y ∧ y ≤ nI 999 then nI (ofA S D (tN y) (mo, pr, fa) (tN x) 0 ch) else -1) else -1, (S, mo, pr, fa, sc, ch, rc, D))
theorem ltA_le {S : Nat → Nat → Nat} (hi : iS S) {D : zD6} : ∀ (j a : Nat) (t : zT3) (ch : Int32), (ltA S D j a t ch).1 ≤ a + 108 * j
  | 0, a, _, _ => Nat.le_refl _
  | j + 1, a, t, ch => by
    have := ltA_le hi (D := D) j (a + wor S D (drw S (nxC ch)) t) (stp S D (drw S (nxC ch)) t) (nxC ch)
    have h := wor_le hi (D := D) (act := drw S (nxC ch)) (t := t)
    rw [ltA]
    omega
set_option maxHeartbeats 4000000 in
set_option maxRecDepth 100000 in
theorem c_Co_drawAct {G : zG} {n u : Nat} {μ : Nat → va_E} {S : Nat → Nat → Nat} {sc ch : Int32} (hi : iS S) (h5 : μ 5 = ob5 S sc ch) : zMet G 0 M_Co_drawAct [.ref 5] n u μ n u (zE (some (.int (nI (drw S (nxC ch))))) (zu μ 5 (ob5 S sc (nxC ch)))) := by
  have hi0 := hi.1
  have hb := (nxC ch).toBitVec.isLt
  unfold ob5 at h5
  refine z_start (lv := [.ref 5]) K_Co_drawAct rfl rfl (Nat.le_refl _) (Nat.le_refl _) (Nat.le_of_ble_eq_true rfl) rfl ?_
  refine z_al0 (pc' := 1) 0 rfl rfl ?_
  refine z_al0 (pc' := 2) 1 rfl rfl ?_
  refine z_getf (pc' := 5) 2 rfl rfl f_Co_37_3 (by first | exact h5 | exact zu_s) (by rfl) ?_
  refine z_ldc l_Co_100 (pc' := 7) 3 rfl rfl ?_
  refine z_imul (pc' := 8) 4 rfl rfl ?_
  refine z_sipush (v := nI 12345) (by decide) (pc' := 11) 5 rfl rfl ?_
  refine z_iadd (pc' := 12) 6 rfl rfl ?_
  refine z_putf (pc' := 15) 7 rfl rfl f_Co_37_3 (by first | exact h5 | exact zu_s) rfl rfl (by rfl) (by rfl) ?_
  dsimp only [List.set]
  rw [ob5_ch, ← nxC_eq]
  unfold ob5
  refine z_al0 (pc' := 16) 8 rfl rfl ?_
  refine z_getf (pc' := 19) 9 rfl rfl f_Co_37_3 (by first | exact h5 | exact zu_s) (by rfl) ?_
  
  refine z_bipush (v := nI 16) (by decide) (pc' := 21) 10 rfl rfl ?_
  refine z_iushr (pc' := 22) 11 rfl rfl ?_
  rw [us16]
  refine z_al0 (pc' := 23) 12 rfl rfl ?_
  refine z_getf (pc' := 26) 13 rfl rfl f_Co_60_3 (by first | exact h5 | exact zu_s) (by rfl) ?_
  refine z_iconst (v := nI 1) (by decide) (pc' := 27) 14 rfl rfl ?_
  first | refine z_iaddN (pc' := 28) 15 rfl rfl ?_ | refine z_iadd (pc' := 28) 15 rfl rfl ?_
  refine z_irem (by exact nI_ne0 (by omega) (by omega)) (pc' := 29) 16 rfl rfl ?_
  rw [pk_rem (by omega) (by omega) (by omega)]
  exact z_ireturn 17 rfl rfl (by first | rfl | exact zbo_nar) rfl rfl (by exact ⟨rfl, rfl⟩)
set_option maxHeartbeats 4000000 in
set_option maxRecDepth 100000 in
theorem c_Wb_lot {G : zG} {n u : Nat} {μ : Nat → va_E} {κ : zκ} {kp : Int32} {ac : Value} (h : cst μ κ) (hob : isOb μ kp ac) :
    zMet G 6 M_Wb_lot [.ref 4] n u μ n u (cK μ (f_lot κ)) := by
  obtain ⟨S, mo, pr, fa, sc, ch, rc, D⟩ := κ
  have hst := h
  obtain ⟨h1, ⟨cs, q, h2⟩, ⟨β, its, h3, h3a, h3b⟩, ⟨c23, h4⟩, h5⟩ := h
  have hk5 := h5
  obtain ⟨hi, hx, hmo, hrc⟩ := h5
  have hi0 := hi.1
  have hi1 := hi.2.1
  have hi2 := hi.2.2.1
  have hi3 := hi.2.2.2.2.1
  refine z_start (lv := [.ref 4]) K_Wb_lot rfl rfl (Nat.le_refl _) (Nat.le_refl _) (Nat.le_of_ble_eq_true rfl) rfl ?_
  unfold isOb at hob
  refine z_mu (pcc_id h1 h2).symm ?_
  have hob0 : isOb μ kp ac := hob
  refine z_al0 (pc' := 1) 0 rfl rfl ?_
  refine z_getf (pc' := 4) 1 rfl rfl f_Wb_10_11 (by first | exact pcc_5 | exact pcc_6 | exact pcc_7 | exact pcc_8 | exact pcc_9 | exact pcc_10 | exact pcc_11 | exact pcc_12 | exact pcc_13 | exact pcc_14 | exact pcc_15 | exact pcc_22 | (rw [pcc_o (by decide)]; assumption)) (by rfl) ?_
  refine z_callV1 (pc' := 7) 2 rfl rfl k_Wb_155 (by first | exact pcc_5 | exact pcc_6 | exact pcc_7 | exact pcc_8 | exact pcc_9 | exact pcc_10 | exact pcc_11 | exact pcc_12 | exact pcc_13 | exact pcc_14 | exact pcc_15 | exact pcc_22 | (rw [pcc_o (by decide)]; assumption)) (c_Co_isOver hi (by omega)) (by decide) (Nat.le_refl _) (Nat.le_refl _) rfl rfl (Nat.le_of_ble_eq_true rfl) ?_
  first | refine z_if_eqB (pc' := 10) 3 rfl rfl (tgt := 15) rfl (fun h7 => ?_) (fun h7 => ?_) | refine z_if_eqN (pc' := 10) 3 rfl rfl (tgt := 15) rfl (by omega) (fun h7 => ?_) (fun h7 => ?_) | refine z_if_eq (pc' := 10) 3 rfl rfl (tgt := 15) rfl (fun h7 => ?_) (fun h7 => ?_)
  · refine z_al0 (pc' := 16) 6 rfl rfl ?_
    refine z_al0 (pc' := 17) 7 rfl rfl ?_
    refine z_getf (pc' := 20) 8 rfl rfl f_Wb_10_11 (by first | exact pcc_5 | exact pcc_6 | exact pcc_7 | exact pcc_8 | exact pcc_9 | exact pcc_10 | exact pcc_11 | exact pcc_12 | exact pcc_13 | exact pcc_14 | exact pcc_15 | exact pcc_22 | (rw [pcc_o (by decide)]; assumption)) (by rfl) ?_
    refine z_callV1 (pc' := 23) 9 rfl rfl k_Wb_256 (by first | exact pcc_5 | exact pcc_6 | exact pcc_7 | exact pcc_8 | exact pcc_9 | exact pcc_10 | exact pcc_11 | exact pcc_12 | exact pcc_13 | exact pcc_14 | exact pcc_15 | exact pcc_22 | (rw [pcc_o (by decide)]; assumption)) (c_Co_drawAct (S := S) (sc := sc) (ch := ch) hi pcc_5) (by decide) (Nat.le_refl _) (Nat.le_refl _) rfl rfl (Nat.le_of_ble_eq_true rfl) ?_
    rw [pcc_s5 (fun _ _ => rfl)]
    refine z_callVX1 (pc' := 26) 10 rfl rfl k_Wb_177 (by first | exact pcc_5 | exact pcc_6 | exact pcc_7 | exact pcc_8 | exact pcc_9 | exact pcc_10 | exact pcc_11 | exact pcc_12 | exact pcc_13 | exact pcc_14 | exact pcc_15 | exact pcc_22 | (rw [pcc_o (by decide)]; assumption)) (c_Wb_passMonth (act := drw S (nxC ch)) hob0 hi h3 h3a (by omega) (by have := drw_le (S := S) (nxC ch); omega) hx) (by decide) (Nat.le_refl _) (Nat.le_refl _) rfl rfl (Nat.le_of_ble_eq_true rfl) (fun q23 => ?_)
    exact z_ireturn 11 rfl rfl (by first | rfl | exact zbo_nar) rfl rfl (by show cK μ _ _ _; rw [f_lot, if_neg h7, f_pass]; exact cK_of hst rfl rfl (⟨hi, mon_ok hi hx, by show mo + 1 ≤ S 0 3; omega, hrc⟩))
  · refine z_bipush (v := (-4)) (by decide) (pc' := 12) 4 rfl rfl ?_
    refine z_goto 5 rfl (tgt := 26) rfl ?_
    exact z_ireturn 11 rfl rfl (by first | rfl | exact zbo_nar) rfl rfl (by show cK μ _ _ _; rw [f_lot, if_pos h7]; exact cK_of hst rfl rfl (hk5))
set_option maxHeartbeats 4000000 in
set_option maxRecDepth 100000 in
theorem c_Mo_byLot {G : zG} {n u : Nat} {ν : Nat → va_E} {s : Nat → Int32} {S : Nat → Nat → Nat} {rc : Nat} {ρ : Nat → Int32} {D : zD6} (hi : iS S) (hD : dzM ρ rc D) {mo : Nat} {pr fa : Nat → Nat} {sc ch : Int32} {q : Nat → Int32} (hm : mo ≤ 16) (hx : iX S pr fa) : zMet G 6 M_Mo_byLot [.ref 88] n u (pm (zu ν 93 (.inl (1, 100, .inl q))) s (mk S mo pr fa sc ch rc ρ)) n u (zS (some (.int (nI (mon S D mo (drw S (nxC ch)) pr fa).2.2.2.2))) (fun q9 : Nat → Int32 => pm (zu ν 93 (.inl (1, 100, .inl q9))) (un s 14 (nI (mon S D mo (drw S (nxC ch)) pr fa).2.2.2.1)) (mk S (mo + 1) (mon S D mo (drw S (nxC ch)) pr fa).1 (mon S D mo (drw S (nxC ch)) pr fa).2.1 (sc + nI (mon S D mo (drw S (nxC ch)) pr fa).2.2.2.2) (nxC ch) rc ρ))) := by
  have hi0 := hi.1
  have hb := (nxC ch).toBitVec.isLt
  have hdl := drw_le (S := S) (nxC ch)
  refine z_start (lv := [.ref 88]) K_Mo_byLot rfl rfl (Nat.le_refl _) (Nat.le_refl _) (Nat.le_of_ble_eq_true rfl) rfl ?_
  refine z_al0 (pc' := 1) 0 rfl rfl ?_
  refine z_getf (pc' := 4) 1 rfl rfl f_Mo_9_12 (by first | exact pm_f | exact pm_1 | (rw [pm_o (by decide)]; exact zu_s)) (by rfl) ?_
  refine z_iconst (v := nI 5) (by decide) (pc' := 5) 2 rfl rfl ?_
  refine z_al0 (pc' := 6) 3 rfl rfl ?_
  refine z_getf (pc' := 9) 4 rfl rfl f_Mo_9_12 (by first | exact pm_f | exact pm_1 | (rw [pm_o (by decide)]; exact zu_s)) (by rfl) ?_
  refine z_iconst (v := nI 5) (by decide) (pc' := 10) 5 rfl rfl ?_
  refine z_iald (pc' := 11) 6 rfl rfl (by first | exact pm_f | exact pm_1 | (rw [pm_o (by decide)]; exact zu_s)) (by omega) (by decide) ?_
  rw [mk_5]
  refine z_ldcw l_Mo_300 (pc' := 14) 7 rfl rfl ?_
  refine z_imul (pc' := 15) 8 rfl rfl ?_
  refine z_sipush (v := nI 12345) (by decide) (pc' := 18) 9 rfl rfl ?_
  refine z_iadd (pc' := 19) 10 rfl rfl ?_
  refine z_iast (pc' := 20) 11 rfl rfl (by first | exact pm_f | exact pm_1 | (rw [pm_o (by decide)]; exact zu_s)) (by omega) (by decide) ?_
  rw [pm_s1, ← nxC_eq, mk_u_ch]
  refine z_al0 (pc' := 21) 12 rfl rfl ?_
  refine z_al0 (pc' := 22) 13 rfl rfl ?_
  refine z_getf (pc' := 25) 14 rfl rfl f_Mo_9_12 (by first | exact pm_f | exact pm_1 | (rw [pm_o (by decide)]; exact zu_s)) (by rfl) ?_
  refine z_iconst (v := nI 5) (by decide) (pc' := 26) 15 rfl rfl ?_
  refine z_iald (pc' := 27) 16 rfl rfl (by first | exact pm_f | exact pm_1 | (rw [pm_o (by decide)]; exact zu_s)) (by omega) (by decide) ?_
  rw [mk_5]
  refine z_bipush (v := nI 16) (by decide) (pc' := 29) 17 rfl rfl ?_
  refine z_iushr (pc' := 30) 18 rfl rfl ?_
  rw [us16]
  refine z_al0 (pc' := 31) 19 rfl rfl ?_
  refine z_getf (pc' := 34) 20 rfl rfl f_Mo_9_12 (by first | exact pm_f | exact pm_1 | (rw [pm_o (by decide)]; exact zu_s)) (by rfl) ?_
  refine z_iconst (v := nI 3) (by decide) (pc' := 35) 21 rfl rfl ?_
  refine z_iald (pc' := 36) 22 rfl rfl (by first | exact pm_f | exact pm_1 | (rw [pm_o (by decide)]; exact zu_s)) (by omega) (by decide) ?_
  rw [mk_3]
  refine z_iconst (v := nI 1) (by decide) (pc' := 37) 23 rfl rfl ?_
  first | refine z_iaddN (pc' := 38) 24 rfl rfl ?_ | refine z_iadd (pc' := 38) 24 rfl rfl ?_
  refine z_irem (by exact nI_ne0 (by omega) (by omega)) (pc' := 39) 25 rfl rfl ?_
  rw [pk_rem (by omega) (by omega) (by omega)]
  refine z_iconst (v := nI 1) (by decide) (pc' := 40) 26 rfl rfl ?_
  refine z_isub (pc' := 41) 27 rfl rfl ?_
  refine z_callVX1 (pc' := 44) 28 rfl rfl k_Mo_227 (by first | exact pm_f | exact pm_1 | (rw [pm_o (by decide)]; exact zu_s)) (c_Mo_goes (act := drw S (nxC ch)) hi hD hm (by omega) hx) (by decide) (Nat.le_refl _) (Nat.le_refl _) rfl rfl (Nat.le_of_ble_eq_true rfl) (fun q41 => ?_)
  exact z_ireturn 29 rfl rfl (by first | rfl | exact zbo_nar) rfl rfl (by exact ⟨rfl, q41, rfl⟩)
set_option maxHeartbeats 4000000 in
set_option maxRecDepth 100000 in
theorem c_Mo_lot {G : zG} {n u : Nat} {μ : Nat → va_E} {κ : zκ} {s : Nat → Int32} (h : mst μ s κ) :
    zMet G 7 M_Mo_lot [.ref 88] n u μ n u (mK μ s (f_lot κ)) := by
  obtain ⟨S, mo, pr, fa, sc, ch, rc, D⟩ := κ
  have hst := h
  obtain ⟨⟨ρ, h1, hD⟩, h2, ⟨q93, h93⟩, ⟨q91, h91⟩, ⟨q94, h94⟩, ⟨q95, h95⟩, ⟨q96, h96⟩, ⟨q97, h97⟩, h5⟩ := h
  have hk5 := h5
  obtain ⟨hi, hx, hmo, hrc⟩ := h5
  have hi0 := hi.1
  have hi1 := hi.2.1
  have hi2 := hi.2.2.1
  have hi3 := hi.2.2.2.2.1
  have hm16 : mo ≤ 16 := by omega
  refine z_start (lv := [.ref 88]) K_Mo_lot rfl rfl (Nat.le_refl _) (Nat.le_refl _) (Nat.le_of_ble_eq_true rfl) rfl ?_
  refine z_mu (show μ = pm (zu (zu μ 91 (.inl (0, 618, .inl q91))) 93 (.inl (1, 100, .inl q93))) s (mk S mo pr fa sc ch rc ρ) by rw [zu_id h91, zu_id h93, pm_id h2 h1]) ?_
  refine z_al0 (pc' := 1) 0 rfl rfl ?_
  refine z_callV1 (pc' := 4) 1 rfl rfl k_Mo_124 (by first | exact pm_f | exact pm_1 | (rw [pm_o (by decide)]; first | exact zu_s | (rw [zu_n (by decide)]; first | exact zu_s | (rw [zu_n (by decide)]; assumption)))) (c_Mo_isOver hi hm16) (by decide) (Nat.le_refl _) (Nat.le_refl _) rfl rfl (Nat.le_of_ble_eq_true rfl) ?_
  first | refine z_if_eqB (pc' := 7) 2 rfl rfl (tgt := 12) rfl (fun h4 => ?_) (fun h4 => ?_) | refine z_if_eqN (pc' := 7) 2 rfl rfl (tgt := 12) rfl (by omega) (fun h4 => ?_) (fun h4 => ?_) | refine z_if_eq (pc' := 7) 2 rfl rfl (tgt := 12) rfl (fun h4 => ?_) (fun h4 => ?_)
  · refine z_al0 (pc' := 13) 5 rfl rfl ?_
    refine z_callVX1 (pc' := 16) 6 rfl rfl k_Mo_301 (by first | exact pm_f | exact pm_1 | (rw [pm_o (by decide)]; first | exact zu_s | (rw [zu_n (by decide)]; first | exact zu_s | (rw [zu_n (by decide)]; assumption)))) (c_Mo_byLot hi hD hm16 hx) (by decide) (Nat.le_refl _) (Nat.le_refl _) rfl rfl (Nat.le_of_ble_eq_true rfl) (fun q13 => ?_)
    exact z_ireturn 7 rfl rfl (by first | rfl | exact zbo_nar) rfl rfl (by show mK μ s _ _ _; rw [f_lot, if_neg h4, f_pass]; exact mK_of3 hst (sEq14) hD (⟨hi, mon_ok hi hx, by show mo + 1 ≤ S 0 3; omega, hrc⟩))
  · refine z_bipush (v := (-4)) (by decide) (pc' := 9) 3 rfl rfl ?_
    refine z_goto 4 rfl (tgt := 16) rfl ?_
    exact z_ireturn 7 rfl rfl (by first | rfl | exact zbo_nar) rfl rfl (by show mK μ s _ _ _; rw [f_lot, if_pos h4]; exact mK_of3 hst (sEq_r) hD (hk5))
set_option maxHeartbeats 4000000 in
set_option maxRecDepth 100000 in
theorem l_Wb_oftenI {G : zG} {n u : Nat} {Φ : zP} {ν : Nat → va_E} {S : Nat → Nat → Nat} {sc : Int32} {mo cs : Nat} {pr fa q : Nat → Nat} {kp : Int32} {ac : Value} {β : Nat → Nat → Nat} {its : Nat → zI} {D : zD6} (hob : isOb ν kp ac) (hi : iS S) (hbk : isBk ν 17 β) (hD : dzB β its D) {x1 x2 x3 x4 x5 : Int32} : ∀ j mt ct pt ft (qt : Nat → Nat) acc (ch : Int32), j = S 0 3 - mt → mt ≤ 16 → iX S pt ft →
    (∀ mt' ct' pt' ft' qt' i', zW G 5 M_Wb_often 110 [.ref 4, .int x1, .int x2, .int x3, .int x4, .int x5, .int (nI (ltA S D j acc (mt, pt, ft) ch).1), i'] [] n u (pcr (pcc ν S sc (ltA S D j acc (mt, pt, ft) ch).2 mo cs pr fa q) 43 mt' ct' pt' ft' qt') n u Φ) →
    zW G 5 M_Wb_often 69 [.ref 4, .int x1, .int x2, .int x3, .int x4, .int x5, .int (nI acc), .int (nI mt)] [] n u (pcr (pcc ν S sc ch mo cs pr fa q) 43 mt ct pt ft qt) n u Φ
  | 0, mt, ct, pt, ft, qt, acc, ch, e, hm, hx, K => by
    have hi3 := hi.2.2.2.2.1
    unfold isOb at hob
    refine z_il7 (pc' := 71) 35 rfl rfl ?_
    refine z_al0 (pc' := 72) 36 rfl rfl ?_
    refine z_getf (pc' := 75) 37 rfl rfl f_Wb_10_11 (by first | exact pcr_0 | exact pcr_1 | exact pcr_2 | exact pcr_3 | (rw [pcr_o (by decide)]; first | exact pcc_5 | exact pcc_6 | exact pcc_7 | exact pcc_8 | exact pcc_9 | exact pcc_10 | exact pcc_11 | exact pcc_12 | exact pcc_13 | exact pcc_14 | exact pcc_15 | exact pcc_22 | (rw [pcc_o (by decide)]; assumption))) (by rfl) ?_
    refine z_getf (pc' := 78) 38 rfl rfl f_Wb_149_3 (by first | exact pcr_0 | exact pcr_1 | exact pcr_2 | exact pcr_3 | (rw [pcr_o (by decide)]; first | exact pcc_5 | exact pcc_6 | exact pcc_7 | exact pcc_8 | exact pcc_9 | exact pcc_10 | exact pcc_11 | exact pcc_12 | exact pcc_13 | exact pcc_14 | exact pcc_15 | exact pcc_22 | (rw [pcc_o (by decide)]; assumption))) (by rfl) ?_
    first | refine z_icmp_geN (pc' := 81) 39 rfl rfl (tgt := 110) rfl (by omega) (by omega) (fun h78 => ?_) (fun h78 => ?_) | refine z_icmp_ge (pc' := 81) 39 rfl rfl (tgt := 110) rfl (fun h78 => ?_) (fun h78 => ?_)
    · exact K _ _ _ _ _ _
    · exfalso; omega
  | j + 1, mt, ct, pt, ft, qt, acc, ch, e, hm, hx, K => by
    have hi3 := hi.2.2.2.2.1
    have hdl := drw_le (S := S) (nxC ch)
    have hi0 := hi.1
    have hob0 := hob
    unfold isOb at hob
    refine z_il7 (pc' := 71) 35 rfl rfl ?_
    refine z_al0 (pc' := 72) 36 rfl rfl ?_
    refine z_getf (pc' := 75) 37 rfl rfl f_Wb_10_11 (by first | exact pcr_0 | exact pcr_1 | exact pcr_2 | exact pcr_3 | (rw [pcr_o (by decide)]; first | exact pcc_5 | exact pcc_6 | exact pcc_7 | exact pcc_8 | exact pcc_9 | exact pcc_10 | exact pcc_11 | exact pcc_12 | exact pcc_13 | exact pcc_14 | exact pcc_15 | exact pcc_22 | (rw [pcc_o (by decide)]; assumption))) (by rfl) ?_
    refine z_getf (pc' := 78) 38 rfl rfl f_Wb_149_3 (by first | exact pcr_0 | exact pcr_1 | exact pcr_2 | exact pcr_3 | (rw [pcr_o (by decide)]; first | exact pcc_5 | exact pcc_6 | exact pcc_7 | exact pcc_8 | exact pcc_9 | exact pcc_10 | exact pcc_11 | exact pcc_12 | exact pcc_13 | exact pcc_14 | exact pcc_15 | exact pcc_22 | (rw [pcc_o (by decide)]; assumption))) (by rfl) ?_
    first | refine z_icmp_geN (pc' := 81) 39 rfl rfl (tgt := 110) rfl (by omega) (by omega) (fun h78 => ?_) (fun h78 => ?_) | refine z_icmp_ge (pc' := 81) 39 rfl rfl (tgt := 110) rfl (fun h78 => ?_) (fun h78 => ?_)
    · exfalso; omega
    · refine z_il6 (pc' := 83) 40 rfl rfl ?_
      refine z_al0 (pc' := 84) 41 rfl rfl ?_
      refine z_getf (pc' := 87) 42 rfl rfl f_Wb_22_11 (by first | exact pcr_0 | exact pcr_1 | exact pcr_2 | exact pcr_3 | (rw [pcr_o (by decide)]; first | exact pcc_5 | exact pcc_6 | exact pcc_7 | exact pcc_8 | exact pcc_9 | exact pcc_10 | exact pcc_11 | exact pcc_12 | exact pcc_13 | exact pcc_14 | exact pcc_15 | exact pcc_22 | (rw [pcc_o (by decide)]; assumption))) (by rfl) ?_
      refine z_al0 (pc' := 88) 43 rfl rfl ?_
      refine z_getf (pc' := 91) 44 rfl rfl f_Wb_10_11 (by first | exact pcr_0 | exact pcr_1 | exact pcr_2 | exact pcr_3 | (rw [pcr_o (by decide)]; first | exact pcc_5 | exact pcc_6 | exact pcc_7 | exact pcc_8 | exact pcc_9 | exact pcc_10 | exact pcc_11 | exact pcc_12 | exact pcc_13 | exact pcc_14 | exact pcc_15 | exact pcc_22 | (rw [pcc_o (by decide)]; assumption))) (by rfl) ?_
      refine z_al0 (pc' := 92) 45 rfl rfl ?_
      refine z_getf (pc' := 95) 46 rfl rfl f_Wb_10_11 (by first | exact pcr_0 | exact pcr_1 | exact pcr_2 | exact pcr_3 | (rw [pcr_o (by decide)]; first | exact pcc_5 | exact pcc_6 | exact pcc_7 | exact pcc_8 | exact pcc_9 | exact pcc_10 | exact pcc_11 | exact pcc_12 | exact pcc_13 | exact pcc_14 | exact pcc_15 | exact pcc_22 | (rw [pcc_o (by decide)]; assumption))) (by rfl) ?_
      refine z_callV1 (pc' := 98) 47 rfl rfl k_Wb_256 (by first | exact pcr_0 | exact pcr_1 | exact pcr_2 | exact pcr_3 | (rw [pcr_o (by decide)]; first | exact pcc_5 | exact pcc_6 | exact pcc_7 | exact pcc_8 | exact pcc_9 | exact pcc_10 | exact pcc_11 | exact pcc_12 | exact pcc_13 | exact pcc_14 | exact pcc_15 | exact pcc_22 | (rw [pcc_o (by decide)]; assumption))) (c_Co_drawAct (S := S) (sc := sc) (ch := ch) hi (by rw [pcr_o (by decide)]; exact pcc_5)) (by decide) (Nat.le_refl _) (Nat.le_refl _) rfl rfl (Nat.le_of_ble_eq_true rfl) ?_
      rw [pcr_out (by omega), pcc_s5 (fun _ _ => rfl)]
      refine z_callVX1 (pc' := 101) 48 rfl rfl k_Wb_181 (by first | exact pcr_0 | exact pcr_1 | exact pcr_2 | exact pcr_3 | (rw [pcr_o (by decide)]; first | exact pcc_5 | exact pcc_6 | exact pcc_7 | exact pcc_8 | exact pcc_9 | exact pcc_10 | exact pcc_11 | exact pcc_12 | exact pcc_13 | exact pcc_14 | exact pcc_15 | exact pcc_22 | (rw [pcc_o (by decide)]; assumption))) (c_Cr_passes (act := drw S (nxC ch)) isCo_pcc hi (Or.inr (by decide)) (isBk_pcc hbk) hD hm (by omega) hx) (by decide) (Nat.le_refl _) (Nat.le_refl _) rfl rfl (Nat.le_of_ble_eq_true rfl) (fun q98 => ?_)
      first | refine z_iaddN (pc' := 102) 49 rfl rfl ?_ | refine z_iadd (pc' := 102) 49 rfl rfl ?_
      refine z_is6 rfl rfl (pc' := 104) 50 rfl rfl ?_
      first | refine z_inc7N rfl rfl (pc' := 107) 51 rfl rfl ?_ | refine z_inc7 rfl rfl rfl (pc' := 107) 51 rfl rfl ?_
      refine z_goto 52 rfl (tgt := 69) rfl ?_
      exact l_Wb_oftenI hob0 hi hbk hD j (mt + 1) _ _ _ _ _ _ (by omega) (by omega) (mon_ok hi hx) K
set_option maxHeartbeats 4000000 in
set_option maxRecDepth 100000 in
theorem l_Wb_often {G : zG} {n u : Nat} {Φ : zP} {ν : Nat → va_E} {S : Nat → Nat → Nat} {sc : Int32} {mo cs : Nat} {pr fa q : Nat → Nat} {kp : Int32} {ac : Value} {β : Nat → Nat → Nat} {its : Nat → zI} {D : zD6} (hob : isOb ν kp ac) (hi : iS S) (hbk : isBk ν 17 β) (hD : dzB β its D) {v N : Nat} (hv : v ≤ 999) (hmo : mo ≤ S 0 3) (hx : iX S pr fa) (hN : N ≤ 40) {x3 : Int32} : ∀ c k mt ct pt ft (qt : Nat → Nat) cnt (ch : Int32), k + c = N → cnt + c ≤ 40 →
    (∀ mt' ct' pt' ft' qt' ch' i' j' l', zW G 5 M_Wb_often 132 [.ref 4, .int (nI N), .int (nI v), .int x3, .int (nI (ofA S D v (mo, pr, fa) c cnt ch)), i', j', l'] [] n u (pcr (pcc ν S sc ch' mo cs pr fa q) 43 mt' ct' pt' ft' qt') n u Φ) →
    zW G 5 M_Wb_often 37 [.ref 4, .int (nI N), .int (nI v), .int x3, .int (nI cnt), .int (nI k), .retAddr 0, .retAddr 0] [] n u (pcr (pcc ν S sc ch mo cs pr fa q) 43 mt ct pt ft qt) n u Φ
  | 0, k, mt, ct, pt, ft, qt, cnt, ch, e, hc, K => by
    unfold isOb at hob
    refine z_il5 (pc' := 39) 20 rfl rfl ?_
    refine z_il1 (pc' := 40) 21 rfl rfl ?_
    first | refine z_icmp_geN (pc' := 43) 22 rfl rfl (tgt := 132) rfl (by omega) (by omega) (fun h40 => ?_) (fun h40 => ?_) | refine z_icmp_ge (pc' := 43) 22 rfl rfl (tgt := 132) rfl (fun h40 => ?_) (fun h40 => ?_)
    · exact K _ _ _ _ _ _ _ _ _
    · exfalso; omega
  | c + 1, k, mt, ct, pt, ft, qt, cnt, ch, e, hc, K => by
    have hi3 := hi.2.2.2.2.1
    have hll := ltA_le hi (D := D) (S 0 3 - mo) 0 (mo, pr, fa) ch
    have hob0 := hob
    unfold isOb at hob
    refine z_il5 (pc' := 39) 20 rfl rfl ?_
    refine z_il1 (pc' := 40) 21 rfl rfl ?_
    first | refine z_icmp_geN (pc' := 43) 22 rfl rfl (tgt := 132) rfl (by omega) (by omega) (fun h40 => ?_) (fun h40 => ?_) | refine z_icmp_ge (pc' := 43) 22 rfl rfl (tgt := 132) rfl (fun h40 => ?_) (fun h40 => ?_)
    · exfalso; omega
    · refine z_al0 (pc' := 44) 23 rfl rfl ?_
      refine z_getf (pc' := 47) 24 rfl rfl f_Wb_22_11 (by first | exact pcr_0 | exact pcr_1 | exact pcr_2 | exact pcr_3 | (rw [pcr_o (by decide)]; first | exact pcc_5 | exact pcc_6 | exact pcc_7 | exact pcc_8 | exact pcc_9 | exact pcc_10 | exact pcc_11 | exact pcc_12 | exact pcc_13 | exact pcc_14 | exact pcc_15 | exact pcc_22 | (rw [pcc_o (by decide)]; assumption))) (by rfl) ?_
      refine z_al0 (pc' := 48) 25 rfl rfl ?_
      refine z_getf (pc' := 51) 26 rfl rfl f_Wb_10_11 (by first | exact pcr_0 | exact pcr_1 | exact pcr_2 | exact pcr_3 | (rw [pcr_o (by decide)]; first | exact pcc_5 | exact pcc_6 | exact pcc_7 | exact pcc_8 | exact pcc_9 | exact pcc_10 | exact pcc_11 | exact pcc_12 | exact pcc_13 | exact pcc_14 | exact pcc_15 | exact pcc_22 | (rw [pcc_o (by decide)]; assumption))) (by rfl) ?_
      refine z_getr (pc' := 54) 27 rfl rfl f_Wb_97_3 (by first | exact pcr_0 | exact pcr_1 | exact pcr_2 | exact pcr_3 | (rw [pcr_o (by decide)]; first | exact pcc_5 | exact pcc_6 | exact pcc_7 | exact pcc_8 | exact pcc_9 | exact pcc_10 | exact pcc_11 | exact pcc_12 | exact pcc_13 | exact pcc_14 | exact pcc_15 | exact pcc_22 | (rw [pcc_o (by decide)]; assumption))) (by rfl) ?_
      refine z_callV0 (pc' := 57) 28 rfl rfl k_Wb_184 (by first | exact pcr_0 | exact pcr_1 | exact pcr_2 | exact pcr_3 | (rw [pcr_o (by decide)]; first | exact pcc_5 | exact pcc_6 | exact pcc_7 | exact pcc_8 | exact pcc_9 | exact pcc_10 | exact pcc_11 | exact pcc_12 | exact pcc_13 | exact pcc_14 | exact pcc_15 | exact pcc_22 | (rw [pcc_o (by decide)]; assumption))) (c_Cr_copyFrom isCr_pcc (Or.inl (by decide))) (by decide) (Nat.le_refl _) (Nat.le_refl _) rfl rfl (Nat.le_of_ble_eq_true rfl) ?_
      refine z_iconst (v := nI 0) (by decide) (pc' := 58) 29 rfl rfl ?_
      refine z_is6 rfl rfl (pc' := 60) 30 rfl rfl ?_
      refine z_al0 (pc' := 61) 31 rfl rfl ?_
      refine z_getf (pc' := 64) 32 rfl rfl f_Wb_22_11 (by first | exact pcr_0 | exact pcr_1 | exact pcr_2 | exact pcr_3 | (rw [pcr_o (by decide)]; first | exact pcc_5 | exact pcc_6 | exact pcc_7 | exact pcc_8 | exact pcc_9 | exact pcc_10 | exact pcc_11 | exact pcc_12 | exact pcc_13 | exact pcc_14 | exact pcc_15 | exact pcc_22 | (rw [pcc_o (by decide)]; assumption))) (by rfl) ?_
      refine z_getf (pc' := 67) 33 rfl rfl f_Wb_135_4 (by first | exact pcr_0 | exact pcr_1 | exact pcr_2 | exact pcr_3 | (rw [pcr_o (by decide)]; first | exact pcc_5 | exact pcc_6 | exact pcc_7 | exact pcc_8 | exact pcc_9 | exact pcc_10 | exact pcc_11 | exact pcc_12 | exact pcc_13 | exact pcc_14 | exact pcc_15 | exact pcc_22 | (rw [pcc_o (by decide)]; assumption))) (by rfl) ?_
      refine z_is7 rfl rfl (pc' := 69) 34 rfl rfl ?_
      refine l_Wb_oftenI hob0 hi hbk hD _ _ _ _ _ _ 0 _ rfl (by omega) hx (fun mt1 ct1 pt1 ft1 qt1 i1 => ?_)
      refine z_il4 (pc' := 112) 53 rfl rfl ?_
      refine z_il6 (pc' := 114) 54 rfl rfl ?_
      refine z_il2 (pc' := 115) 55 rfl rfl ?_
      first | refine z_icmp_ltN (pc' := 118) 56 rfl rfl (tgt := 122) rfl (by omega) (by omega) (fun h115 => ?_) (fun h115 => ?_) | refine z_icmp_lt (pc' := 118) 56 rfl rfl (tgt := 122) rfl (fun h115 => ?_) (fun h115 => ?_)
      · refine z_iconst (v := nI 0) (by decide) (pc' := 123) 59 rfl rfl ?_
        first | refine z_iaddN (pc' := 124) 60 rfl rfl ?_ | refine z_iadd (pc' := 124) 60 rfl rfl ?_
        refine z_is4 rfl rfl (pc' := 126) 61 rfl rfl ?_
        first | refine z_inc5N rfl rfl (pc' := 129) 62 rfl rfl ?_ | refine z_inc5 rfl rfl rfl (pc' := 129) 62 rfl rfl ?_
        refine z_goto 63 rfl (tgt := 37) rfl ?_
        refine z_less6 (z_less7 ?_)
        have e9 : ofA S D v (mo, pr, fa) (c + 1) cnt ch = ofA S D v (mo, pr, fa) c (cnt + 0) (ltA S D (S 0 3 - mo) 0 (mo, pr, fa) ch).2 := by
          show ofA S D v (mo, pr, fa) c (cnt + (if v ≤ (ltA S D (S 0 3 - mo) 0 (mo, pr, fa) ch).1 then 1 else 0)) (ltA S D (S 0 3 - mo) 0 (mo, pr, fa) ch).2 = _
          rw [if_neg (by omega)]
        rw [e9] at K
        exact l_Wb_often hob0 hi hbk hD hv hmo hx hN c (k + 1) _ _ _ _ _ _ _ (by omega) (by omega) K
      · refine z_iconst (v := nI 1) (by decide) (pc' := 119) 57 rfl rfl ?_
        refine z_goto 58 rfl (tgt := 123) rfl ?_
        first | refine z_iaddN (pc' := 124) 60 rfl rfl ?_ | refine z_iadd (pc' := 124) 60 rfl rfl ?_
        refine z_is4 rfl rfl (pc' := 126) 61 rfl rfl ?_
        first | refine z_inc5N rfl rfl (pc' := 129) 62 rfl rfl ?_ | refine z_inc5 rfl rfl rfl (pc' := 129) 62 rfl rfl ?_
        refine z_goto 63 rfl (tgt := 37) rfl ?_
        refine z_less6 (z_less7 ?_)
        have e9 : ofA S D v (mo, pr, fa) (c + 1) cnt ch = ofA S D v (mo, pr, fa) c (cnt + 1) (ltA S D (S 0 3 - mo) 0 (mo, pr, fa) ch).2 := by
          show ofA S D v (mo, pr, fa) c (cnt + (if v ≤ (ltA S D (S 0 3 - mo) 0 (mo, pr, fa) ch).1 then 1 else 0)) (ltA S D (S 0 3 - mo) 0 (mo, pr, fa) ch).2 = _
          rw [if_pos (by omega)]
        rw [e9] at K
        exact l_Wb_often hob0 hi hbk hD hv hmo hx hN c (k + 1) _ _ _ _ _ _ _ (by omega) (by omega) K
set_option maxHeartbeats 4000000 in
set_option maxRecDepth 100000 in
theorem c_Wb_often {G : zG} {n u : Nat} {μ : Nat → va_E} {κ : zκ} {kp : Int32} {ac : Value} (h : cst μ κ) (hob : isOb μ kp ac) (htr : isTr μ) (x y : Int32) :
    zMet G 5 M_Wb_often [.ref 4, .int x, .int y] n u μ n u (cKt μ (f_often κ x y)) := by
  obtain ⟨S, mo, pr, fa, sc, ch, rc, D⟩ := κ
  have hst := h
  obtain ⟨h1, ⟨cs, q, h2⟩, ⟨β, its, h3, h3a, h3b⟩, ⟨c23, h4⟩, h5⟩ := h
  have hk5 := h5
  obtain ⟨hi, hx, hmo, hrc⟩ := h5
  have hi0 := hi.1
  have hi1 := hi.2.1
  have hi2 := hi.2.2.1
  have hi3 := hi.2.2.2.2.1
  have hm16 : mo ≤ 16 := by omega
  refine z_start (lv := [.ref 4, .int x, .int y, .retAddr 0, .retAddr 0, .retAddr 0, .retAddr 0, .retAddr 0]) K_Wb_often rfl rfl (Nat.le_refl _) (Nat.le_refl _) (Nat.le_of_ble_eq_true rfl) rfl ?_
  have hob0 := hob
  unfold isOb at hob
  obtain ⟨mt, ct, pt, ft, qt, htr⟩ := htr
  refine z_mu (show μ = pcr (pcc μ S sc ch mo cs pr fa q) 43 mt ct pt ft qt by rw [pcc_id h1 h2, pcr_id htr]) ?_
  refine z_il1 (pc' := 1) 0 rfl rfl ?_
  refine z_iconst (v := nI 1) (by decide) (pc' := 2) 1 rfl rfl ?_
  refine z_bipush (v := nI 40) (by decide) (pc' := 4) 2 rfl rfl ?_
  refine z_callS1 (pc' := 7) 3 rfl rfl k_Wb_72 (c_Wb_within _ _ _) (by decide) (Nat.le_refl _) (Nat.le_refl _) rfl rfl (Nat.le_of_ble_eq_true rfl) ?_
  first | refine z_if_eqB (pc' := 10) 4 rfl rfl (tgt := 21) rfl (fun h7 => ?_) (fun h7 => ?_) | refine z_if_eqN (pc' := 10) 4 rfl rfl (tgt := 21) rfl (by omega) (fun h7 => ?_) (fun h7 => ?_) | refine z_if_eq (pc' := 10) 4 rfl rfl (tgt := 21) rfl (fun h7 => ?_) (fun h7 => ?_)
  · refine z_iconst (v := (-1)) (by decide) (pc' := 22) 10 rfl rfl ?_
    exact z_ireturn 11 rfl rfl (by first | rfl | exact zbo_nar) rfl rfl (by show cKt μ _ _ _; rw [f_often, if_neg h7]; exact cKt_of hst rfl rfl (hk5))
  · refine z_il2 (pc' := 11) 5 rfl rfl ?_
    refine z_iconst (v := nI 0) (by decide) (pc' := 12) 6 rfl rfl ?_
    refine z_sipush (v := nI 999) (by decide) (pc' := 15) 7 rfl rfl ?_
    refine z_callS1 (pc' := 18) 8 rfl rfl k_Wb_72 (c_Wb_within _ _ _) (by decide) (Nat.le_refl _) (Nat.le_refl _) rfl rfl (Nat.le_of_ble_eq_true rfl) ?_
    first | refine z_if_neB (pc' := 21) 9 rfl rfl (tgt := 23) rfl (fun h18 => ?_) (fun h18 => ?_) | refine z_if_neN (pc' := 21) 9 rfl rfl (tgt := 23) rfl (by omega) (fun h18 => ?_) (fun h18 => ?_) | refine z_if_ne (pc' := 21) 9 rfl rfl (tgt := 23) rfl (fun h18 => ?_) (fun h18 => ?_)
    · obtain ⟨x1, hx1, hx2, rfl⟩ := z_wi h7 (by decide) (by decide)
      obtain ⟨y1, hy1, hy2, rfl⟩ := z_wi h18 (by decide) (by decide)
      refine z_al0 (pc' := 24) 12 rfl rfl ?_
      refine z_getf (pc' := 27) 13 rfl rfl f_Wb_10_11 (by first | exact pcr_0 | exact pcr_1 | exact pcr_2 | exact pcr_3 | (rw [pcr_o (by decide)]; first | exact pcc_5 | exact pcc_6 | exact pcc_7 | exact pcc_8 | exact pcc_9 | exact pcc_10 | exact pcc_11 | exact pcc_12 | exact pcc_13 | exact pcc_14 | exact pcc_15 | exact pcc_22 | (rw [pcc_o (by decide)]; assumption))) (by rfl) ?_
      refine z_getf (pc' := 30) 14 rfl rfl f_Wb_253_3 (by first | exact pcr_0 | exact pcr_1 | exact pcr_2 | exact pcr_3 | (rw [pcr_o (by decide)]; first | exact pcc_5 | exact pcc_6 | exact pcc_7 | exact pcc_8 | exact pcc_9 | exact pcc_10 | exact pcc_11 | exact pcc_12 | exact pcc_13 | exact pcc_14 | exact pcc_15 | exact pcc_22 | (rw [pcc_o (by decide)]; assumption))) (by rfl) ?_
      refine z_is3 rfl rfl (pc' := 31) 15 rfl rfl ?_
      refine z_iconst (v := nI 0) (by decide) (pc' := 32) 16 rfl rfl ?_
      refine z_is4 rfl rfl (pc' := 34) 17 rfl rfl ?_
      refine z_iconst (v := nI 0) (by decide) (pc' := 35) 18 rfl rfl ?_
      refine z_is5 rfl rfl (pc' := 37) 19 rfl rfl ?_
      refine l_Wb_often hob0 hi h3 h3a hy2 (by omega) hx hx2 _ 0 _ _ _ _ _ 0 _ (Nat.zero_add _) (by omega) (fun mt1 ct1 pt1 ft1 qt1 ch1 i1 j1 l1 => ?_)
      refine z_al0 (pc' := 133) 64 rfl rfl ?_
      refine z_getf (pc' := 136) 65 rfl rfl f_Wb_10_11 (by first | exact pcr_0 | exact pcr_1 | exact pcr_2 | exact pcr_3 | (rw [pcr_o (by decide)]; first | exact pcc_5 | exact pcc_6 | exact pcc_7 | exact pcc_8 | exact pcc_9 | exact pcc_10 | exact pcc_11 | exact pcc_12 | exact pcc_13 | exact pcc_14 | exact pcc_15 | exact pcc_22 | (rw [pcc_o (by decide)]; assumption))) (by rfl) ?_
      refine z_il3 (pc' := 137) 66 rfl rfl ?_
      refine z_putf (pc' := 140) 67 rfl rfl f_Wb_253_3 (by first | exact pcr_0 | exact pcr_1 | exact pcr_2 | exact pcr_3 | (rw [pcr_o (by decide)]; first | exact pcc_5 | exact pcc_6 | exact pcc_7 | exact pcc_8 | exact pcc_9 | exact pcc_10 | exact pcc_11 | exact pcc_12 | exact pcc_13 | exact pcc_14 | exact pcc_15 | exact pcc_22 | (rw [pcc_o (by decide)]; assumption))) rfl rfl (by rfl) (by rfl) ?_
      dsimp only [List.set]
      rw [ob5_ch, pcr_out (by omega), pcc_s5 (fun _ _ => rfl)]
      refine z_il4 (pc' := 142) 68 rfl rfl ?_
      exact z_ireturn 69 rfl rfl (by first | rfl | exact zbo_nar) rfl rfl (by show cKt μ _ _ _; rw [f_often, if_pos h7, if_pos h18, tN_n (show x1 < 2 ^ 31 by omega), tN_n (show y1 < 2 ^ 31 by omega)]; exact cKt_of hst rfl rfl (hk5))
    · refine z_iconst (v := (-1)) (by decide) (pc' := 22) 10 rfl rfl ?_
      exact z_ireturn 11 rfl rfl (by first | rfl | exact zbo_nar) rfl rfl (by show cKt μ _ _ _; rw [f_often, if_pos h7, if_neg h18]; exact cKt_of hst rfl rfl (hk5))
set_option maxHeartbeats 4000000 in
set_option maxRecDepth 100000 in
theorem l_Mo_oftenI {G : zG} {n u : Nat} {Φ : zP} {ν : Nat → va_E} {s : Nat → Int32} {S : Nat → Nat → Nat} {rc : Nat} {ρ w : Nat → Int32} {D : zD6} (hi : iS S) (hD : dzM ρ rc D) {x1 x2 x3 x4 : Int32} : ∀ j mo pr fa sc (q : Nat → Int32) v acc (ch : Int32), j = S 0 3 - mo → mo ≤ 16 → iX S pr fa →
    (∀ mo' pr' fa' sc' (q' : Nat → Int32) v', zW G 7 M_Mo_often 60 [.ref 88, .int x1, .int x2, .int x3, .int x4, .int (nI (ltA S D j acc (mo, pr, fa) ch).1), .retAddr 0] [] n u (pm (zu (zu ν 91 (.inl (0, 618, .inl w))) 93 (.inl (1, 100, .inl q'))) (un s 14 v') (mk S mo' pr' fa' sc' (ltA S D j acc (mo, pr, fa) ch).2 rc ρ)) n u Φ) →
    zW G 7 M_Mo_often 41 [.ref 88, .int x1, .int x2, .int x3, .int x4, .int (nI acc), .retAddr 0] [] n u (pm (zu (zu ν 91 (.inl (0, 618, .inl w))) 93 (.inl (1, 100, .inl q))) (un s 14 v) (mk S mo pr fa sc ch rc ρ)) n u Φ
  | 0, mo, pr, fa, sc, q, v, acc, ch, e, hm, hx, K => by
    have hi3 := hi.2.2.2.2.1
    refine z_al0 (pc' := 42) 23 rfl rfl ?_
    refine z_callV1 (pc' := 45) 24 rfl rfl k_Mo_124 (by first | exact pm_f | exact pm_1 | (rw [pm_o (by decide)]; first | exact zu_s | (rw [zu_n (by decide)]; first | exact zu_s | (rw [zu_n (by decide)]; assumption)))) (c_Mo_isOver hi hm) (by decide) (Nat.le_refl _) (Nat.le_refl _) rfl rfl (Nat.le_of_ble_eq_true rfl) ?_
    first | refine z_if_neB (pc' := 48) 25 rfl rfl (tgt := 60) rfl (fun h45 => ?_) (fun h45 => ?_) | refine z_if_neN (pc' := 48) 25 rfl rfl (tgt := 60) rfl (by omega) (fun h45 => ?_) (fun h45 => ?_) | refine z_if_ne (pc' := 48) 25 rfl rfl (tgt := 60) rfl (fun h45 => ?_) (fun h45 => ?_)
    · exact K _ _ _ _ _ _
    · exfalso; omega
  | j + 1, mo, pr, fa, sc, q, v, acc, ch, e, hm, hx, K => by
    have hi3 := hi.2.2.2.2.1
    refine z_al0 (pc' := 42) 23 rfl rfl ?_
    refine z_callV1 (pc' := 45) 24 rfl rfl k_Mo_124 (by first | exact pm_f | exact pm_1 | (rw [pm_o (by decide)]; first | exact zu_s | (rw [zu_n (by decide)]; first | exact zu_s | (rw [zu_n (by decide)]; assumption)))) (c_Mo_isOver hi hm) (by decide) (Nat.le_refl _) (Nat.le_refl _) rfl rfl (Nat.le_of_ble_eq_true rfl) ?_
    first | refine z_if_neB (pc' := 48) 25 rfl rfl (tgt := 60) rfl (fun h45 => ?_) (fun h45 => ?_) | refine z_if_neN (pc' := 48) 25 rfl rfl (tgt := 60) rfl (by omega) (fun h45 => ?_) (fun h45 => ?_) | refine z_if_ne (pc' := 48) 25 rfl rfl (tgt := 60) rfl (fun h45 => ?_) (fun h45 => ?_)
    · exfalso; omega
    · refine z_il5 (pc' := 50) 26 rfl rfl ?_
      refine z_al0 (pc' := 51) 27 rfl rfl ?_
      refine z_callVX1 (pc' := 54) 28 rfl rfl k_Mo_301 (by first | exact pm_f | exact pm_1 | (rw [pm_o (by decide)]; first | exact zu_s | (rw [zu_n (by decide)]; first | exact zu_s | (rw [zu_n (by decide)]; assumption)))) (c_Mo_byLot hi hD hm hx) (by decide) (Nat.le_refl _) (Nat.le_refl _) rfl rfl (Nat.le_of_ble_eq_true rfl) (fun q51 => ?_)
      first | refine z_iaddN (pc' := 55) 29 rfl rfl ?_ | refine z_iadd (pc' := 55) 29 rfl rfl ?_
      refine z_is5 rfl rfl (pc' := 57) 30 rfl rfl ?_
      refine z_goto 31 rfl (tgt := 41) rfl ?_
      rw [un_un]
      exact l_Mo_oftenI hi hD j _ _ _ _ _ _ _ _ (by omega) (by omega) (mon_ok hi hx) K
set_option maxHeartbeats 4000000 in
set_option maxRecDepth 100000 in
theorem l_Mo_often {G : zG} {n u : Nat} {Φ : zP} {ν : Nat → va_E} {s : Nat → Int32} {S : Nat → Nat → Nat} {rc : Nat} {ρ : Nat → Int32} {D : zD6} (hi : iS S) (hD : dzM ρ rc D) {y N mo : Nat} {pr fa : Nat → Nat} {sc ch0 : Int32} (hy : y ≤ 999) (hmo : mo ≤ S 0 3) (hx : iX S pr fa) (hN : N ≤ 40) : ∀ c k (q : Nat → Int32) v cnt (ch : Int32), k + c = N → cnt + c ≤ 40 →
    (∀ (q' : Nat → Int32) v' ch' i' j' l', zW G 7 M_Mo_often 100 [.ref 88, .int (nI N), .int (nI y), .int (nI (ofA S D y (mo, pr, fa) c cnt ch)), i', j', l'] [] n u (pm (zu (zu ν 91 (.inl (0, 618, .inl (mk S mo pr fa sc ch0 rc ρ)))) 93 (.inl (1, 100, .inl q'))) (un s 14 v') (mk S mo pr fa sc ch' rc ρ)) n u Φ) →
    zW G 7 M_Mo_often 32 [.ref 88, .int (nI N), .int (nI y), .int (nI cnt), .int (nI k), .retAddr 0, .retAddr 0] [] n u (pm (zu (zu ν 91 (.inl (0, 618, .inl (mk S mo pr fa sc ch0 rc ρ)))) 93 (.inl (1, 100, .inl q))) (un s 14 v) (mk S mo pr fa sc ch rc ρ)) n u Φ
  | 0, k, q, v, cnt, ch, e, hc, K => by
    refine z_il4 (pc' := 34) 18 rfl rfl ?_
    refine z_il1 (pc' := 35) 19 rfl rfl ?_
    first | refine z_icmp_geN (pc' := 38) 20 rfl rfl (tgt := 100) rfl (by omega) (by omega) (fun h35 => ?_) (fun h35 => ?_) | refine z_icmp_ge (pc' := 38) 20 rfl rfl (tgt := 100) rfl (fun h35 => ?_) (fun h35 => ?_)
    · exact K _ _ _ _ _ _
    · exfalso; omega
  | c + 1, k, q, v, cnt, ch, e, hc, K => by
    have hi3 := hi.2.2.2.2.1
    have hll := ltA_le hi (D := D) (S 0 3 - mo) 0 (mo, pr, fa) ch
    refine z_il4 (pc' := 34) 18 rfl rfl ?_
    refine z_il1 (pc' := 35) 19 rfl rfl ?_
    first | refine z_icmp_geN (pc' := 38) 20 rfl rfl (tgt := 100) rfl (by omega) (by omega) (fun h35 => ?_) (fun h35 => ?_) | refine z_icmp_ge (pc' := 38) 20 rfl rfl (tgt := 100) rfl (fun h35 => ?_) (fun h35 => ?_)
    · exfalso; omega
    · refine z_iconst (v := nI 0) (by decide) (pc' := 39) 21 rfl rfl ?_
      refine z_is5 rfl rfl (pc' := 41) 22 rfl rfl ?_
      refine l_Mo_oftenI hi hD _ _ _ _ _ _ _ 0 _ rfl (by omega) hx (fun mo1 pr1 fa1 sc1 q1 v1 => ?_)
      refine z_al0 (pc' := 61) 32 rfl rfl ?_
      refine z_getf (pc' := 64) 33 rfl rfl f_Mo_9_12 (by first | exact pm_f | exact pm_1 | (rw [pm_o (by decide)]; first | exact zu_s | (rw [zu_n (by decide)]; first | exact zu_s | (rw [zu_n (by decide)]; assumption)))) (by rfl) ?_
      refine z_iconst (v := nI 5) (by decide) (pc' := 65) 34 rfl rfl ?_
      refine z_iald (pc' := 66) 35 rfl rfl (by first | exact pm_f | exact pm_1 | (rw [pm_o (by decide)]; first | exact zu_s | (rw [zu_n (by decide)]; first | exact zu_s | (rw [zu_n (by decide)]; assumption)))) (by omega) (by decide) ?_
      rw [mk_5]
      refine z_is6 rfl rfl (pc' := 68) 36 rfl rfl ?_
      refine z_al0 (pc' := 69) 37 rfl rfl ?_
      refine z_callV0 (pc' := 72) 38 rfl rfl k_Mo_200 (by first | exact pm_f | exact pm_1 | (rw [pm_o (by decide)]; first | exact zu_s | (rw [zu_n (by decide)]; first | exact zu_s | (rw [zu_n (by decide)]; assumption)))) (c_Mo_putsBack) (by decide) (Nat.le_refl _) (Nat.le_refl _) rfl rfl (Nat.le_of_ble_eq_true rfl) ?_
      refine z_al0 (pc' := 73) 39 rfl rfl ?_
      refine z_getf (pc' := 76) 40 rfl rfl f_Mo_9_12 (by first | exact pm_f | exact pm_1 | (rw [pm_o (by decide)]; first | exact zu_s | (rw [zu_n (by decide)]; first | exact zu_s | (rw [zu_n (by decide)]; assumption)))) (by rfl) ?_
      refine z_iconst (v := nI 5) (by decide) (pc' := 77) 41 rfl rfl ?_
      refine z_il6 (pc' := 79) 42 rfl rfl ?_
      refine z_iast (pc' := 80) 43 rfl rfl (by first | exact pm_f | exact pm_1 | (rw [pm_o (by decide)]; first | exact zu_s | (rw [zu_n (by decide)]; first | exact zu_s | (rw [zu_n (by decide)]; assumption)))) (by omega) (by decide) ?_
      rw [pm_s1, mk_u_ch]
      refine z_il3 (pc' := 81) 44 rfl rfl ?_
      refine z_il5 (pc' := 83) 45 rfl rfl ?_
      refine z_il2 (pc' := 84) 46 rfl rfl ?_
      first | refine z_icmp_ltN (pc' := 87) 47 rfl rfl (tgt := 91) rfl (by omega) (by omega) (fun h84 => ?_) (fun h84 => ?_) | refine z_icmp_lt (pc' := 87) 47 rfl rfl (tgt := 91) rfl (fun h84 => ?_) (fun h84 => ?_)
      · refine z_iconst (v := nI 0) (by decide) (pc' := 92) 50 rfl rfl ?_
        first | refine z_iaddN (pc' := 93) 51 rfl rfl ?_ | refine z_iadd (pc' := 93) 51 rfl rfl ?_
        refine z_is3 rfl rfl (pc' := 94) 52 rfl rfl ?_
        first | refine z_inc4N rfl rfl (pc' := 97) 53 rfl rfl ?_ | refine z_inc4 rfl rfl rfl (pc' := 97) 53 rfl rfl ?_
        refine z_goto 54 rfl (tgt := 32) rfl ?_
        refine z_less5 (z_less6 ?_)
        have e9 : ofA S D y (mo, pr, fa) (c + 1) cnt ch = ofA S D y (mo, pr, fa) c (cnt + 0) (ltA S D (S 0 3 - mo) 0 (mo, pr, fa) ch).2 := by
          show ofA S D y (mo, pr, fa) c (cnt + (if y ≤ (ltA S D (S 0 3 - mo) 0 (mo, pr, fa) ch).1 then 1 else 0)) (ltA S D (S 0 3 - mo) 0 (mo, pr, fa) ch).2 = _
          rw [if_neg (by omega)]
        rw [e9] at K
        exact l_Mo_often hi hD hy hmo hx hN c (k + 1) _ _ _ _ (by omega) (by omega) K
      · refine z_iconst (v := nI 1) (by decide) (pc' := 88) 48 rfl rfl ?_
        refine z_goto 49 rfl (tgt := 92) rfl ?_
        first | refine z_iaddN (pc' := 93) 51 rfl rfl ?_ | refine z_iadd (pc' := 93) 51 rfl rfl ?_
        refine z_is3 rfl rfl (pc' := 94) 52 rfl rfl ?_
        first | refine z_inc4N rfl rfl (pc' := 97) 53 rfl rfl ?_ | refine z_inc4 rfl rfl rfl (pc' := 97) 53 rfl rfl ?_
        refine z_goto 54 rfl (tgt := 32) rfl ?_
        refine z_less5 (z_less6 ?_)
        have e9 : ofA S D y (mo, pr, fa) (c + 1) cnt ch = ofA S D y (mo, pr, fa) c (cnt + 1) (ltA S D (S 0 3 - mo) 0 (mo, pr, fa) ch).2 := by
          show ofA S D y (mo, pr, fa) c (cnt + (if y ≤ (ltA S D (S 0 3 - mo) 0 (mo, pr, fa) ch).1 then 1 else 0)) (ltA S D (S 0 3 - mo) 0 (mo, pr, fa) ch).2 = _
          rw [if_pos (by omega)]
        rw [e9] at K
        exact l_Mo_often hi hD hy hmo hx hN c (k + 1) _ _ _ _ (by omega) (by omega) K
set_option maxHeartbeats 4000000 in
set_option maxRecDepth 100000 in
theorem c_Mo_often {G : zG} {n u : Nat} {μ : Nat → va_E} {κ : zκ} {s : Nat → Int32} (h : mst μ s κ) (x y : Int32) :
    zMet G 7 M_Mo_often [.ref 88, .int x, .int y] n u μ n u (mK μ s (f_often κ x y)) := by
  obtain ⟨S, mo, pr, fa, sc, ch, rc, D⟩ := κ
  have hst := h
  obtain ⟨⟨ρ, h1, hD⟩, h2, ⟨q93, h93⟩, ⟨q91, h91⟩, ⟨q94, h94⟩, ⟨q95, h95⟩, ⟨q96, h96⟩, ⟨q97, h97⟩, h5⟩ := h
  have hk5 := h5
  obtain ⟨hi, hx, hmo, hrc⟩ := h5
  have hi0 := hi.1
  have hi1 := hi.2.1
  have hi2 := hi.2.2.1
  have hi3 := hi.2.2.2.2.1
  have hm16 : mo ≤ 16 := by omega
  refine z_start (lv := [.ref 88, .int x, .int y, .retAddr 0, .retAddr 0, .retAddr 0, .retAddr 0]) K_Mo_often rfl rfl (Nat.le_refl _) (Nat.le_refl _) (Nat.le_of_ble_eq_true rfl) rfl ?_
  refine z_mu (show μ = pm (zu (zu μ 91 (.inl (0, 618, .inl q91))) 93 (.inl (1, 100, .inl q93))) s (mk S mo pr fa sc ch rc ρ) by rw [zu_id h91, zu_id h93, pm_id h2 h1]) ?_
  refine z_il1 (pc' := 1) 0 rfl rfl ?_
  refine z_iconst (v := nI 1) (by decide) (pc' := 2) 1 rfl rfl ?_
  refine z_bipush (v := nI 40) (by decide) (pc' := 4) 2 rfl rfl ?_
  refine z_callS1 (pc' := 7) 3 rfl rfl k_Mo_67 (c_Mo_in _ _ _) (by decide) (Nat.le_refl _) (Nat.le_refl _) rfl rfl (Nat.le_of_ble_eq_true rfl) ?_
  first | refine z_if_eqB (pc' := 10) 4 rfl rfl (tgt := 21) rfl (fun h7 => ?_) (fun h7 => ?_) | refine z_if_eqN (pc' := 10) 4 rfl rfl (tgt := 21) rfl (by omega) (fun h7 => ?_) (fun h7 => ?_) | refine z_if_eq (pc' := 10) 4 rfl rfl (tgt := 21) rfl (fun h7 => ?_) (fun h7 => ?_)
  · refine z_iconst (v := (-1)) (by decide) (pc' := 22) 10 rfl rfl ?_
    exact z_ireturn 11 rfl rfl (by first | rfl | exact zbo_nar) rfl rfl (by show mK μ s _ _ _; rw [f_often, if_neg h7]; exact mK_of3 hst (sEq_r) hD (hk5))
  · refine z_il2 (pc' := 11) 5 rfl rfl ?_
    refine z_iconst (v := nI 0) (by decide) (pc' := 12) 6 rfl rfl ?_
    refine z_sipush (v := nI 999) (by decide) (pc' := 15) 7 rfl rfl ?_
    refine z_callS1 (pc' := 18) 8 rfl rfl k_Mo_67 (c_Mo_in _ _ _) (by decide) (Nat.le_refl _) (Nat.le_refl _) rfl rfl (Nat.le_of_ble_eq_true rfl) ?_
    first | refine z_if_neB (pc' := 21) 9 rfl rfl (tgt := 23) rfl (fun h18 => ?_) (fun h18 => ?_) | refine z_if_neN (pc' := 21) 9 rfl rfl (tgt := 23) rfl (by omega) (fun h18 => ?_) (fun h18 => ?_) | refine z_if_ne (pc' := 21) 9 rfl rfl (tgt := 23) rfl (fun h18 => ?_) (fun h18 => ?_)
    · obtain ⟨x1, hx1, hx2, rfl⟩ := z_wi h7 (by decide) (by decide)
      obtain ⟨y1, hy1, hy2, rfl⟩ := z_wi h18 (by decide) (by decide)
      refine z_al0 (pc' := 24) 12 rfl rfl ?_
      refine z_callV0 (pc' := 27) 13 rfl rfl k_Mo_194 (by first | exact pm_f | exact pm_1 | (rw [pm_o (by decide)]; first | exact zu_s | (rw [zu_n (by decide)]; first | exact zu_s | (rw [zu_n (by decide)]; assumption)))) (c_Mo_thinks) (by decide) (Nat.le_refl _) (Nat.le_refl _) rfl rfl (Nat.le_of_ble_eq_true rfl) ?_
      refine z_iconst (v := nI 0) (by decide) (pc' := 28) 14 rfl rfl ?_
      refine z_is3 rfl rfl (pc' := 29) 15 rfl rfl ?_
      refine z_iconst (v := nI 0) (by decide) (pc' := 30) 16 rfl rfl ?_
      refine z_is4 rfl rfl (pc' := 32) 17 rfl rfl ?_
      refine z_mu (show _ = pm (zu (zu μ 91 (.inl (0, 618, .inl (mk S mo pr fa sc ch rc ρ)))) 93 (.inl (1, 100, .inl q93))) (un s 14 (s 14)) (mk S mo pr fa sc ch rc ρ) by rw [un_id]) ?_
      refine l_Mo_often hi hD hy2 (by omega) hx hx2 _ 0 _ _ 0 _ (Nat.zero_add _) (by omega) (fun q1 v1 ch1 i1 j1 l1 => ?_)
      refine z_al0 (pc' := 101) 55 rfl rfl ?_
      refine z_callV0 (pc' := 104) 56 rfl rfl k_Mo_200 (by first | exact pm_f | exact pm_1 | (rw [pm_o (by decide)]; first | exact zu_s | (rw [zu_n (by decide)]; first | exact zu_s | (rw [zu_n (by decide)]; assumption)))) (c_Mo_putsBack) (by decide) (Nat.le_refl _) (Nat.le_refl _) rfl rfl (Nat.le_of_ble_eq_true rfl) ?_
      refine z_il3 (pc' := 105) 57 rfl rfl ?_
      exact z_ireturn 58 rfl rfl (by first | rfl | exact zbo_nar) rfl rfl (by show mK μ s _ _ _; rw [f_often, if_pos h7, if_pos h18, tN_n (show x1 < 2 ^ 31 by omega), tN_n (show y1 < 2 ^ 31 by omega)]; exact mK_of3 hst (sEq14) hD (hk5))
    · refine z_iconst (v := (-1)) (by decide) (pc' := 22) 10 rfl rfl ?_
      exact z_ireturn 11 rfl rfl (by first | rfl | exact zbo_nar) rfl rfl (by show mK μ s _ _ _; rw [f_often, if_pos h7, if_neg h18]; exact mK_of3 hst (sEq_r) hD (hk5))
