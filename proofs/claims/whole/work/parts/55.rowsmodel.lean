/-! ===== rows, the reference ===== -/
def isRo (μ : Nat → va_E) (s : Nat → Int32) (R : Nat) (rw : Nat → Int32) : Prop := s 23 = nI R ∧ μ 98 = .inl (0, 12, .inl rw) ∧ R ≤ 4
def sEqR (s s' : Nat → Int32) : Prop := s' 3 = s 3 ∧ s' 5 = s 5 ∧ s' 32 = s 32
theorem sEqR_of {s s' : Nat → Int32} (h : sEq s s') : sEqR s s' := ⟨h.1, h.2.1, h.2.2.2⟩
/-- a call that uses the reference's rows, and leaves the coast -/
def mKr (μ : Nat → va_E) (s : Nat → Int32) (κ : zκ) (a : Int32) (R : Nat) (rw : Nat → Int32) : zP := fun r μ' => r = some (.int a) ∧ ∃ s' : Nat → Int32, sEqR s s' ∧ mst μ' s' κ ∧ isRo μ' s' R rw ∧ ∀ i, (i < 88 ∨ i = 90 ∨ i = 92 ∨ 98 < i) → μ' i = μ i
theorem mst_fr {μ μ' : Nat → va_E} {s : Nat → Int32} {κ : zκ} (h : mst μ s κ) (hf : ∀ i, 88 ≤ i → i ≤ 97 → i ≠ 90 → i ≠ 92 → μ' i = μ i) : mst μ' s κ := by
  obtain ⟨S0, mo0, pr0, fa0, sc0, ch0, rc0, D0⟩ := κ
  obtain ⟨⟨ρ, h1, h1d⟩, h2, ⟨q3, h3⟩, ⟨q4, h4⟩, ⟨q5, h5⟩, ⟨q6, h6⟩, ⟨q7, h7⟩, ⟨q8, h8⟩, h9⟩ := h
  exact ⟨⟨ρ, by rw [hf _ (by decide) (by decide) (by decide) (by decide)]; exact h1, h1d⟩, by rw [hf _ (by decide) (by decide) (by decide) (by decide)]; exact h2, ⟨q3, by rw [hf _ (by decide) (by decide) (by decide) (by decide)]; exact h3⟩, ⟨q4, by rw [hf _ (by decide) (by decide) (by decide) (by decide)]; exact h4⟩, ⟨q5, by rw [hf _ (by decide) (by decide) (by decide) (by decide)]; exact h5⟩, ⟨q6, by rw [hf _ (by decide) (by decide) (by decide) (by decide)]; exact h6⟩, ⟨q7, by rw [hf _ (by decide) (by decide) (by decide) (by decide)]; exact h7⟩, ⟨q8, by rw [hf _ (by decide) (by decide) (by decide) (by decide)]; exact h8⟩, h9⟩
theorem pm_98 {ν : Nat → va_E} {s m w q f : Nat → Int32} {c e : va_E} : zu (pm (zu (zu (zu ν 98 c) 91 (.inl (0, 618, .inl w))) 93 (.inl (1, 100, .inl q))) s m) 98 e = pm (zu (zu (zu ν 98 e) 91 (.inl (0, 618, .inl w))) 93 (.inl (1, 100, .inl q))) s m := by
  unfold pm
  rw [zu_sw (a := 89) (b := 98) (by decide), zu_sw (a := 88) (b := 98) (by decide), zu_sw (a := 93) (b := 98) (by decide), zu_sw (a := 91) (b := 98) (by decide), zu_zu]
theorem mKr_of {μ : Nat → va_E} {s s' : Nat → Int32} {κ : zκ} (h : mst μ s κ) {S : Nat → Nat → Nat} {mo : Nat} {pr fa : Nat → Nat} {sc ch : Int32} {rc : Nat} {ρ : Nat → Int32} {D : zD6} {w q rw : Nat → Int32} {r : Int32} {R : Nat} (hs : sEqR s s') (h23 : s' 23 = nI R) (hR : R ≤ 4) (hd : dzM ρ rc D) (hk : iK (S, mo, pr, fa, sc, ch, rc, D)) : mKr μ s (S, mo, pr, fa, sc, ch, rc, D) r R rw (some (.int r)) (pm (zu (zu (zu μ 98 (.inl (0, 12, .inl rw))) 91 (.inl (0, 618, .inl w))) 93 (.inl (1, 100, .inl q))) s' (mk S mo pr fa sc ch rc ρ)) := by
  have h0 : mst (zu μ 98 (.inl (0, 12, .inl rw))) s κ := mst_fr h (fun i _ _ _ _ => zu_n (by omega))
  refine ⟨rfl, s', hs, mst_pm3 h0 hd hk, ⟨h23, ?_, hR⟩, fun i hi => ?_⟩
  · rw [pm_o (by decide), zu_n (by decide), zu_n (by decide)]; exact zu_s
  · rw [pm_o (by omega), zu_n (by omega), zu_n (by omega), zu_n (by omega)]
set_option maxHeartbeats 4000000 in
set_option maxRecDepth 100000 in
theorem c_Mo_isRow {G : zG} {n u : Nat} {ν : Nat → va_E} {s m : Nat → Int32} {R : Nat} (h23 : s 23 = nI R) (hR : R ≤ 4) (x y : Int32) : zMet G 1 M_Mo_isRow [.ref 88, .int x, .int y] n u (pm ν s m) n u (zE (some (.int (zbo ((0 ≤ x ∧ x < nI R) ∧ (nI 0 ≤ y ∧ y ≤ nI 2))))) (pm ν s m)) := by
  have hs := sub1_lt (x := x) (k := R) (by omega)
  refine z_start (lv := [.ref 88, .int x, .int y]) K_Mo_isRow rfl rfl (Nat.le_refl _) (Nat.le_refl _) (Nat.le_of_ble_eq_true rfl) rfl ?_
  refine z_il1 (pc' := 1) 0 rfl rfl ?_
  refine z_iconst (v := nI 0) (by decide) (pc' := 2) 1 rfl rfl ?_
  refine z_al0 (pc' := 3) 2 rfl rfl ?_
  refine z_getf (pc' := 6) 3 rfl rfl f_Mo_304_12 (by first | exact pm_f | exact pm_1 | (rw [pm_o (by decide)]; assumption)) (by rfl) ?_
  rw [h23]
  refine z_iconst (v := nI 1) (by decide) (pc' := 7) 4 rfl rfl ?_
  refine z_isub (pc' := 8) 5 rfl rfl ?_
  refine z_callS1 (pc' := 11) 6 rfl rfl k_Mo_67 (c_Mo_in _ _ _) (by decide) (Nat.le_refl _) (Nat.le_refl _) rfl rfl (Nat.le_of_ble_eq_true rfl) ?_
  first | refine z_if_eqB (pc' := 14) 7 rfl rfl (tgt := 27) rfl (fun h11 => ?_) (fun h11 => ?_) | refine z_if_eqN (pc' := 14) 7 rfl rfl (tgt := 27) rfl (by omega) (fun h11 => ?_) (fun h11 => ?_) | refine z_if_eq (pc' := 14) 7 rfl rfl (tgt := 27) rfl (fun h11 => ?_) (fun h11 => ?_)
  · refine z_iconst (v := nI 0) (by decide) (pc' := 28) 15 rfl rfl ?_
    exact z_ireturn 16 rfl rfl (by first | rfl | exact zbo_nar) rfl rfl (by exact ⟨by rw [zbo_f (fun z => h11 (hs.mpr z.1))], rfl⟩)
  · refine z_il2 (pc' := 15) 8 rfl rfl ?_
    refine z_iconst (v := nI 0) (by decide) (pc' := 16) 9 rfl rfl ?_
    refine z_iconst (v := nI 2) (by decide) (pc' := 17) 10 rfl rfl ?_
    refine z_callS1 (pc' := 20) 11 rfl rfl k_Mo_67 (c_Mo_in _ _ _) (by decide) (Nat.le_refl _) (Nat.le_refl _) rfl rfl (Nat.le_of_ble_eq_true rfl) ?_
    first | refine z_if_eqB (pc' := 23) 12 rfl rfl (tgt := 27) rfl (fun h20 => ?_) (fun h20 => ?_) | refine z_if_eqN (pc' := 23) 12 rfl rfl (tgt := 27) rfl (by omega) (fun h20 => ?_) (fun h20 => ?_) | refine z_if_eq (pc' := 23) 12 rfl rfl (tgt := 27) rfl (fun h20 => ?_) (fun h20 => ?_)
    · refine z_iconst (v := nI 0) (by decide) (pc' := 28) 15 rfl rfl ?_
      exact z_ireturn 16 rfl rfl (by first | rfl | exact zbo_nar) rfl rfl (by exact ⟨by rw [zbo_f (fun z => h20 z.2)], rfl⟩)
    · refine z_iconst (v := nI 1) (by decide) (pc' := 24) 13 rfl rfl ?_
      refine z_goto 14 rfl (tgt := 28) rfl ?_
      exact z_ireturn 16 rfl rfl (by first | rfl | exact zbo_nar) rfl rfl (by exact ⟨by rw [zbo_t ⟨hs.mp h11, h20⟩], rfl⟩)
set_option maxHeartbeats 4000000 in
set_option maxRecDepth 100000 in
theorem c_Mo_row {G : zG} {n u : Nat} {μ : Nat → va_E} {κ : zκ} {s : Nat → Int32} (h : mst μ s κ) {R : Nat} {rw : Nat → Int32} (hro : isRo μ s R rw) (x y : Int32) :
    zMet G 2 M_Mo_row [.ref 88, .int x, .int y] n u μ n u (mKr μ s κ (r_row R rw x y) R rw) := by
  obtain ⟨S, mo, pr, fa, sc, ch, rc, D⟩ := κ
  have hst := h
  obtain ⟨⟨ρ, h1, hD⟩, h2, ⟨q93, h93⟩, ⟨q91, h91⟩, ⟨q94, h94⟩, ⟨q95, h95⟩, ⟨q96, h96⟩, ⟨q97, h97⟩, h5⟩ := h
  have hk5 := h5
  obtain ⟨hi, hx, hmo, hrc⟩ := h5
  have hi0 := hi.1
  have hi1 := hi.2.1
  have hi2 := hi.2.2.1
  have hi3 := hi.2.2.2.2.1
  have hm16 : mo ≤ 16 := by omega
  obtain ⟨h23, h98, hR⟩ := hro
  refine z_start (lv := [.ref 88, .int x, .int y]) K_Mo_row rfl rfl (Nat.le_refl _) (Nat.le_refl _) (Nat.le_of_ble_eq_true rfl) rfl ?_
  refine z_mu (show μ = pm (zu (zu (zu μ 98 (.inl (0, 12, .inl rw))) 91 (.inl (0, 618, .inl q91))) 93 (.inl (1, 100, .inl q93))) s (mk S mo pr fa sc ch rc ρ) by rw [zu_id h98, zu_id h91, zu_id h93, pm_id h2 h1]) ?_
  refine z_al0 (pc' := 1) 0 rfl rfl ?_
  refine z_il1 (pc' := 2) 1 rfl rfl ?_
  refine z_il2 (pc' := 3) 2 rfl rfl ?_
  refine z_callV1 (pc' := 6) 3 rfl rfl k_Mo_307 (by first | exact pm_f | exact pm_1 | (rw [pm_o (by decide)]; first | exact zu_s | (rw [zu_n (by decide)]; first | exact zu_s | (rw [zu_n (by decide)]; first | exact zu_s | (rw [zu_n (by decide)]; assumption))))) (c_Mo_isRow h23 hR _ _) (by decide) (Nat.le_refl _) (Nat.le_refl _) rfl rfl (Nat.le_of_ble_eq_true rfl) ?_
  first | refine z_if_eqB (pc' := 9) 4 rfl rfl (tgt := 22) rfl (fun h6 => ?_) (fun h6 => ?_) | refine z_if_eqN (pc' := 9) 4 rfl rfl (tgt := 22) rfl (by omega) (fun h6 => ?_) (fun h6 => ?_) | refine z_if_eq (pc' := 9) 4 rfl rfl (tgt := 22) rfl (fun h6 => ?_) (fun h6 => ?_)
  · refine z_bipush (v := (-9)) (by decide) (pc' := 24) 14 rfl rfl ?_
    exact z_ireturn 15 rfl rfl (by first | rfl | exact zbo_nar) rfl rfl (by rw [r_row, if_neg h6]; exact mKr_of hst (⟨rfl, rfl, rfl⟩) (h23) (hR) hD hk5)
  · obtain ⟨x1, hx1, rfl⟩ := z_in h6.1 (by omega)
    obtain ⟨y1, hy1, hy2, rfl⟩ := z_wi h6.2 (by decide) (by decide)
    refine z_al0 (pc' := 10) 5 rfl rfl ?_
    refine z_getf (pc' := 13) 6 rfl rfl f_Mo_38_12 (by first | exact pm_f | exact pm_1 | (rw [pm_o (by decide)]; first | exact zu_s | (rw [zu_n (by decide)]; first | exact zu_s | (rw [zu_n (by decide)]; first | exact zu_s | (rw [zu_n (by decide)]; assumption))))) (by rfl) ?_
    refine z_iconst (v := nI 3) (by decide) (pc' := 14) 7 rfl rfl ?_
    refine z_il1 (pc' := 15) 8 rfl rfl ?_
    first | refine z_imulN (pc' := 16) 9 rfl rfl ?_ | refine z_imul (pc' := 16) 9 rfl rfl ?_
    refine z_il2 (pc' := 17) 10 rfl rfl ?_
    first | refine z_iaddN (pc' := 18) 11 rfl rfl ?_ | refine z_iadd (pc' := 18) 11 rfl rfl ?_
    refine z_iald (pc' := 19) 12 rfl rfl (by first | exact pm_f | exact pm_1 | (rw [pm_o (by decide)]; first | exact zu_s | (rw [zu_n (by decide)]; first | exact zu_s | (rw [zu_n (by decide)]; first | exact zu_s | (rw [zu_n (by decide)]; assumption))))) (by omega) (by decide) ?_
    refine z_goto 13 rfl (tgt := 24) rfl ?_
    exact z_ireturn 15 rfl rfl (by first | rfl | exact zbo_nar) rfl rfl (by rw [r_row, if_pos h6, tN_n (show x1 < 2 ^ 31 by omega), tN_n (show y1 < 2 ^ 31 by omega)]; exact mKr_of hst (⟨rfl, rfl, rfl⟩) (h23) (hR) hD hk5)
set_option maxHeartbeats 4000000 in
set_option maxRecDepth 100000 in
theorem c_Mo_alterRow {G : zG} {n u : Nat} {μ : Nat → va_E} {κ : zκ} {s : Nat → Int32} (h : mst μ s κ) {R : Nat} {rw : Nat → Int32} (hro : isRo μ s R rw) (x y v : Int32) :
    zMet G 2 M_Mo_alterRow [.ref 88, .int x, .int y, .int v] n u μ n u (mKr μ s κ (r_row R rw x y) R (r_alter R rw x y v)) := by
  obtain ⟨S, mo, pr, fa, sc, ch, rc, D⟩ := κ
  have hst := h
  obtain ⟨⟨ρ, h1, hD⟩, h2, ⟨q93, h93⟩, ⟨q91, h91⟩, ⟨q94, h94⟩, ⟨q95, h95⟩, ⟨q96, h96⟩, ⟨q97, h97⟩, h5⟩ := h
  have hk5 := h5
  obtain ⟨hi, hx, hmo, hrc⟩ := h5
  have hi0 := hi.1
  have hi1 := hi.2.1
  have hi2 := hi.2.2.1
  have hi3 := hi.2.2.2.2.1
  have hm16 : mo ≤ 16 := by omega
  obtain ⟨h23, h98, hR⟩ := hro
  refine z_start (lv := [.ref 88, .int x, .int y, .int v, .retAddr 0]) K_Mo_alterRow rfl rfl (Nat.le_refl _) (Nat.le_refl _) (Nat.le_of_ble_eq_true rfl) rfl ?_
  refine z_mu (show μ = pm (zu (zu (zu μ 98 (.inl (0, 12, .inl rw))) 91 (.inl (0, 618, .inl q91))) 93 (.inl (1, 100, .inl q93))) s (mk S mo pr fa sc ch rc ρ) by rw [zu_id h98, zu_id h91, zu_id h93, pm_id h2 h1]) ?_
  refine z_al0 (pc' := 1) 0 rfl rfl ?_
  refine z_il1 (pc' := 2) 1 rfl rfl ?_
  refine z_il2 (pc' := 3) 2 rfl rfl ?_
  refine z_callV1 (pc' := 6) 3 rfl rfl k_Mo_307 (by first | exact pm_f | exact pm_1 | (rw [pm_o (by decide)]; first | exact zu_s | (rw [zu_n (by decide)]; first | exact zu_s | (rw [zu_n (by decide)]; first | exact zu_s | (rw [zu_n (by decide)]; assumption))))) (c_Mo_isRow h23 hR _ _) (by decide) (Nat.le_refl _) (Nat.le_refl _) rfl rfl (Nat.le_of_ble_eq_true rfl) ?_
  first | refine z_if_neB (pc' := 9) 4 rfl rfl (tgt := 12) rfl (fun h6 => ?_) (fun h6 => ?_) | refine z_if_neN (pc' := 9) 4 rfl rfl (tgt := 12) rfl (by omega) (fun h6 => ?_) (fun h6 => ?_) | refine z_if_ne (pc' := 9) 4 rfl rfl (tgt := 12) rfl (fun h6 => ?_) (fun h6 => ?_)
  · obtain ⟨x1, hx1, rfl⟩ := z_in h6.1 (by omega)
    obtain ⟨y1, hy1, hy2, rfl⟩ := z_wi h6.2 (by decide) (by decide)
    refine z_al0 (pc' := 13) 7 rfl rfl ?_
    refine z_getf (pc' := 16) 8 rfl rfl f_Mo_38_12 (by first | exact pm_f | exact pm_1 | (rw [pm_o (by decide)]; first | exact zu_s | (rw [zu_n (by decide)]; first | exact zu_s | (rw [zu_n (by decide)]; first | exact zu_s | (rw [zu_n (by decide)]; assumption))))) (by rfl) ?_
    refine z_iconst (v := nI 3) (by decide) (pc' := 17) 9 rfl rfl ?_
    refine z_il1 (pc' := 18) 10 rfl rfl ?_
    first | refine z_imulN (pc' := 19) 11 rfl rfl ?_ | refine z_imul (pc' := 19) 11 rfl rfl ?_
    refine z_il2 (pc' := 20) 12 rfl rfl ?_
    first | refine z_iaddN (pc' := 21) 13 rfl rfl ?_ | refine z_iadd (pc' := 21) 13 rfl rfl ?_
    refine z_iald (pc' := 22) 14 rfl rfl (by first | exact pm_f | exact pm_1 | (rw [pm_o (by decide)]; first | exact zu_s | (rw [zu_n (by decide)]; first | exact zu_s | (rw [zu_n (by decide)]; first | exact zu_s | (rw [zu_n (by decide)]; assumption))))) (by omega) (by decide) ?_
    refine z_is4 rfl rfl (pc' := 24) 15 rfl rfl ?_
    refine z_al0 (pc' := 25) 16 rfl rfl ?_
    refine z_getf (pc' := 28) 17 rfl rfl f_Mo_38_12 (by first | exact pm_f | exact pm_1 | (rw [pm_o (by decide)]; first | exact zu_s | (rw [zu_n (by decide)]; first | exact zu_s | (rw [zu_n (by decide)]; first | exact zu_s | (rw [zu_n (by decide)]; assumption))))) (by rfl) ?_
    refine z_iconst (v := nI 3) (by decide) (pc' := 29) 18 rfl rfl ?_
    refine z_il1 (pc' := 30) 19 rfl rfl ?_
    first | refine z_imulN (pc' := 31) 20 rfl rfl ?_ | refine z_imul (pc' := 31) 20 rfl rfl ?_
    refine z_il2 (pc' := 32) 21 rfl rfl ?_
    first | refine z_iaddN (pc' := 33) 22 rfl rfl ?_ | refine z_iadd (pc' := 33) 22 rfl rfl ?_
    refine z_il3 (pc' := 34) 23 rfl rfl ?_
    refine z_iast (pc' := 35) 24 rfl rfl (by first | exact pm_f | exact pm_1 | (rw [pm_o (by decide)]; first | exact zu_s | (rw [zu_n (by decide)]; first | exact zu_s | (rw [zu_n (by decide)]; first | exact zu_s | (rw [zu_n (by decide)]; assumption))))) (by omega) (by decide) ?_
    rw [pm_98 (f := rw)]
    refine z_il4 (pc' := 37) 25 rfl rfl ?_
    exact z_ireturn 26 rfl rfl (by first | rfl | exact zbo_nar) rfl rfl (by rw [r_row, if_pos h6, r_alter, if_pos h6, tN_n (show x1 < 2 ^ 31 by omega), tN_n (show y1 < 2 ^ 31 by omega)]; exact mKr_of hst (⟨rfl, rfl, rfl⟩) (h23) (hR) hD hk5)
  · refine z_bipush (v := (-9)) (by decide) (pc' := 11) 5 rfl rfl ?_
    exact z_ireturn 6 rfl rfl (by first | rfl | exact zbo_nar) rfl rfl (by rw [r_row, if_neg h6, r_alter, if_neg h6]; exact mKr_of hst (⟨rfl, rfl, rfl⟩) (h23) (hR) hD hk5)
set_option maxHeartbeats 4000000 in
set_option maxRecDepth 100000 in
theorem l_Mo_prove {G : zG} {n u : Nat} {Φ : zP} {ν : Nat → va_E} {s : Nat → Int32} {S : Nat → Nat → Nat} {ch : Int32} {rc : Nat} {ρ : Nat → Int32} {D : zD6} (hi : iS S) (hD : dzM ρ rc D) {mo0 : Nat} {pr0 fa0 : Nat → Nat} {sc0 : Int32} {K b : Nat} (hK : K ≤ 4) (hb : b < 2 ^ 31) (h18 : s 18 = nI b) {x0 : Value} : ∀ j k mo pr fa sc (q rw : Nat → Int32) v, k + j = K → mo + j ≤ 16 → iX S pr fa →
    (∀ mo' pr' fa' sc' (q' : Nat → Int32) v' i', zW G 7 M_Mo_prove 102 [.ref 88, x0, .int (nI K), i'] [] n u (pm (zu (zu (zu ν 98 (.inl (0, 12, .inl (rwA S D K b j k (mo, pr, fa) rw)))) 91 (.inl (0, 618, .inl (mk S mo0 pr0 fa0 sc0 ch rc ρ)))) 93 (.inl (1, 100, .inl q'))) (un s 14 v') (mk S mo' pr' fa' sc' ch rc ρ)) n u Φ) →
    zW G 7 M_Mo_prove 28 [.ref 88, x0, .int (nI K), .int (nI k)] [] n u (pm (zu (zu (zu ν 98 (.inl (0, 12, .inl rw))) 91 (.inl (0, 618, .inl (mk S mo0 pr0 fa0 sc0 ch rc ρ)))) 93 (.inl (1, 100, .inl q))) (un s 14 v) (mk S mo pr fa sc ch rc ρ)) n u Φ
  | 0, k, mo, pr, fa, sc, q, rw, v, e, hm, hx, Kk => by
    refine z_il3 (pc' := 29) 18 rfl rfl ?_
    refine z_il2 (pc' := 30) 19 rfl rfl ?_
    first | refine z_icmp_geN (pc' := 33) 20 rfl rfl (tgt := 102) rfl (by omega) (by omega) (fun h30 => ?_) (fun h30 => ?_) | refine z_icmp_ge (pc' := 33) 20 rfl rfl (tgt := 102) rfl (fun h30 => ?_) (fun h30 => ?_)
    · exact Kk _ _ _ _ _ _ _
    · exfalso; omega
  | j + 1, k, mo, pr, fa, sc, q, rw, v, e, hm, hx, Kk => by
    have hi0 := hi.1
    have hd := dgt_lt (N := S 0 0 + 1) (r := K - 1 - k) (p := b) (by omega)
    have hx2 := iX_stp hi (D := D) (act := (dgt (S 0 0 + 1) (K - 1 - k) b)) (t := (mo, pr, fa)) hx
    refine z_il3 (pc' := 29) 18 rfl rfl ?_
    refine z_il2 (pc' := 30) 19 rfl rfl ?_
    first | refine z_icmp_geN (pc' := 33) 20 rfl rfl (tgt := 102) rfl (by omega) (by omega) (fun h30 => ?_) (fun h30 => ?_) | refine z_icmp_ge (pc' := 33) 20 rfl rfl (tgt := 102) rfl (fun h30 => ?_) (fun h30 => ?_)
    · exfalso; omega
    · refine z_al0 (pc' := 34) 21 rfl rfl ?_
      refine z_getf (pc' := 37) 22 rfl rfl f_Mo_38_12 (by first | exact pm_f | exact pm_1 | (rw [pm_o (by decide)]; first | exact zu_s | (rw [zu_n (by decide)]; first | exact zu_s | (rw [zu_n (by decide)]; first | exact zu_s | (rw [zu_n (by decide)]; assumption))))) (by rfl) ?_
      refine z_iconst (v := nI 3) (by decide) (pc' := 38) 23 rfl rfl ?_
      refine z_il3 (pc' := 39) 24 rfl rfl ?_
      first | refine z_imulN (pc' := 40) 25 rfl rfl ?_ | refine z_imul (pc' := 40) 25 rfl rfl ?_
      refine z_al0 (pc' := 41) 26 rfl rfl ?_
      refine z_getf (pc' := 44) 27 rfl rfl f_Mo_278_12 (by first | exact pm_f | exact pm_1 | (rw [pm_o (by decide)]; first | exact zu_s | (rw [zu_n (by decide)]; first | exact zu_s | (rw [zu_n (by decide)]; first | exact zu_s | (rw [zu_n (by decide)]; assumption))))) (by rfl) ?_
      refine z_te (show _ = nI b from h18) ?_
      refine z_al0 (pc' := 45) 28 rfl rfl ?_
      refine z_getf (pc' := 48) 29 rfl rfl f_Mo_16_12 (by first | exact pm_f | exact pm_1 | (rw [pm_o (by decide)]; first | exact zu_s | (rw [zu_n (by decide)]; first | exact zu_s | (rw [zu_n (by decide)]; first | exact zu_s | (rw [zu_n (by decide)]; assumption))))) (by rfl) ?_
      refine z_iconst (v := nI 3) (by decide) (pc' := 49) 30 rfl rfl ?_
      refine z_iald (pc' := 50) 31 rfl rfl (by first | exact pm_f | exact pm_1 | (rw [pm_o (by decide)]; first | exact zu_s | (rw [zu_n (by decide)]; first | exact zu_s | (rw [zu_n (by decide)]; first | exact zu_s | (rw [zu_n (by decide)]; assumption))))) (by omega) (by decide) ?_
      rw [mk_3]
      refine z_iconst (v := nI 1) (by decide) (pc' := 51) 32 rfl rfl ?_
      first | refine z_iaddN (pc' := 52) 33 rfl rfl ?_ | refine z_iadd (pc' := 52) 33 rfl rfl ?_
      refine z_il3 (pc' := 53) 34 rfl rfl ?_
      refine z_il2 (pc' := 54) 35 rfl rfl ?_
      refine z_callS1 (pc' := 57) 36 rfl rfl k_Mo_257 (c_Mo_digit (by omega) (by omega) (by omega) hb (by omega)) (by decide) (Nat.le_refl _) (Nat.le_refl _) rfl rfl (Nat.le_of_ble_eq_true rfl) ?_
      refine z_iast (pc' := 58) 37 rfl rfl (by first | exact pm_f | exact pm_1 | (rw [pm_o (by decide)]; first | exact zu_s | (rw [zu_n (by decide)]; first | exact zu_s | (rw [zu_n (by decide)]; first | exact zu_s | (rw [zu_n (by decide)]; assumption))))) (by omega) (by decide) ?_
      rw [pm_98 (f := rw)]
      refine z_al0 (pc' := 59) 38 rfl rfl ?_
      refine z_getf (pc' := 62) 39 rfl rfl f_Mo_38_12 (by first | exact pm_f | exact pm_1 | (rw [pm_o (by decide)]; first | exact zu_s | (rw [zu_n (by decide)]; first | exact zu_s | (rw [zu_n (by decide)]; first | exact zu_s | (rw [zu_n (by decide)]; assumption))))) (by rfl) ?_
      refine z_iconst (v := nI 3) (by decide) (pc' := 63) 40 rfl rfl ?_
      refine z_il3 (pc' := 64) 41 rfl rfl ?_
      first | refine z_imulN (pc' := 65) 42 rfl rfl ?_ | refine z_imul (pc' := 65) 42 rfl rfl ?_
      refine z_iconst (v := nI 1) (by decide) (pc' := 66) 43 rfl rfl ?_
      first | refine z_iaddN (pc' := 67) 44 rfl rfl ?_ | refine z_iadd (pc' := 67) 44 rfl rfl ?_
      refine z_al0 (pc' := 68) 45 rfl rfl ?_
      refine z_al0 (pc' := 69) 46 rfl rfl ?_
      refine z_getf (pc' := 72) 47 rfl rfl f_Mo_38_12 (by first | exact pm_f | exact pm_1 | (rw [pm_o (by decide)]; first | exact zu_s | (rw [zu_n (by decide)]; first | exact zu_s | (rw [zu_n (by decide)]; first | exact zu_s | (rw [zu_n (by decide)]; assumption))))) (by rfl) ?_
      refine z_iconst (v := nI 3) (by decide) (pc' := 73) 48 rfl rfl ?_
      refine z_il3 (pc' := 74) 49 rfl rfl ?_
      first | refine z_imulN (pc' := 75) 50 rfl rfl ?_ | refine z_imul (pc' := 75) 50 rfl rfl ?_
      refine z_iald (pc' := 76) 51 rfl rfl (by first | exact pm_f | exact pm_1 | (rw [pm_o (by decide)]; first | exact zu_s | (rw [zu_n (by decide)]; first | exact zu_s | (rw [zu_n (by decide)]; first | exact zu_s | (rw [zu_n (by decide)]; assumption))))) (by omega) (by decide) ?_
      rw [upd_at]
      refine z_iconst (v := nI 1) (by decide) (pc' := 77) 52 rfl rfl ?_
      refine z_isub (pc' := 78) 53 rfl rfl ?_
      refine z_callVX1 (pc' := 81) 54 rfl rfl k_Mo_227 (by first | exact pm_f | exact pm_1 | (rw [pm_o (by decide)]; first | exact zu_s | (rw [zu_n (by decide)]; first | exact zu_s | (rw [zu_n (by decide)]; first | exact zu_s | (rw [zu_n (by decide)]; assumption))))) (c_Mo_goes (act := (dgt (S 0 0 + 1) (K - 1 - k) b)) hi hD (by omega) (by omega) hx) (by decide) (Nat.le_refl _) (Nat.le_refl _) rfl rfl (Nat.le_of_ble_eq_true rfl) (fun q78 => ?_)
      refine z_iast (pc' := 82) 55 rfl rfl (by first | exact pm_f | exact pm_1 | (rw [pm_o (by decide)]; first | exact zu_s | (rw [zu_n (by decide)]; first | exact zu_s | (rw [zu_n (by decide)]; first | exact zu_s | (rw [zu_n (by decide)]; assumption))))) (by omega) (by decide) ?_
      rw [pm_98 (f := rw)]
      refine z_al0 (pc' := 83) 56 rfl rfl ?_
      refine z_getf (pc' := 86) 57 rfl rfl f_Mo_38_12 (by first | exact pm_f | exact pm_1 | (rw [pm_o (by decide)]; first | exact zu_s | (rw [zu_n (by decide)]; first | exact zu_s | (rw [zu_n (by decide)]; first | exact zu_s | (rw [zu_n (by decide)]; assumption))))) (by rfl) ?_
      refine z_iconst (v := nI 3) (by decide) (pc' := 87) 58 rfl rfl ?_
      refine z_il3 (pc' := 88) 59 rfl rfl ?_
      first | refine z_imulN (pc' := 89) 60 rfl rfl ?_ | refine z_imul (pc' := 89) 60 rfl rfl ?_
      refine z_iconst (v := nI 2) (by decide) (pc' := 90) 61 rfl rfl ?_
      first | refine z_iaddN (pc' := 91) 62 rfl rfl ?_ | refine z_iadd (pc' := 91) 62 rfl rfl ?_
      refine z_al0 (pc' := 92) 63 rfl rfl ?_
      refine z_callV1 (pc' := 95) 64 rfl rfl k_Mo_260 (by first | exact pm_f | exact pm_1 | (rw [pm_o (by decide)]; first | exact zu_s | (rw [zu_n (by decide)]; first | exact zu_s | (rw [zu_n (by decide)]; first | exact zu_s | (rw [zu_n (by decide)]; assumption))))) (c_Mo_promised hi (fun j => (hx2 j).1)) (by decide) (Nat.le_refl _) (Nat.le_refl _) rfl rfl (Nat.le_of_ble_eq_true rfl) ?_
      refine z_iast (pc' := 96) 65 rfl rfl (by first | exact pm_f | exact pm_1 | (rw [pm_o (by decide)]; first | exact zu_s | (rw [zu_n (by decide)]; first | exact zu_s | (rw [zu_n (by decide)]; first | exact zu_s | (rw [zu_n (by decide)]; assumption))))) (by omega) (by decide) ?_
      rw [pm_98 (f := rw)]
      first | refine z_inc3N rfl rfl (pc' := 99) 66 rfl rfl ?_ | refine z_inc3 rfl rfl rfl (pc' := 99) 66 rfl rfl ?_
      refine z_goto 67 rfl (tgt := 28) rfl ?_
      rw [un_un]
      exact l_Mo_prove hi hD hK hb h18 j (k + 1) _ _ _ _ _ _ _ (by omega) (by omega) (mon_ok hi hx) Kk
set_option maxHeartbeats 4000000 in
set_option maxRecDepth 100000 in
theorem c_Mo_prove {G : zG} {n u : Nat} {μ : Nat → va_E} {κ : zκ} {s : Nat → Int32} (h : mst μ s κ) {R : Nat} {rw : Nat → Int32} (hro : isRo μ s R rw) (x : Int32) :
    zMet G 8 M_Mo_prove [.ref 88, .int x] n u μ n u (mKr μ s κ ((r_prove κ x R rw).1) (r_prove κ x R rw).2.1 (r_prove κ x R rw).2.2) := by
  obtain ⟨S, mo, pr, fa, sc, ch, rc, D⟩ := κ
  have hst := h
  obtain ⟨⟨ρ, h1, hD⟩, h2, ⟨q93, h93⟩, ⟨q91, h91⟩, ⟨q94, h94⟩, ⟨q95, h95⟩, ⟨q96, h96⟩, ⟨q97, h97⟩, h5⟩ := h
  have hk5 := h5
  obtain ⟨hi, hx, hmo, hrc⟩ := h5
  have hi0 := hi.1
  have hi1 := hi.2.1
  have hi2 := hi.2.2.1
  have hi3 := hi.2.2.2.2.1
  have hm16 : mo ≤ 16 := by omega
  obtain ⟨h23, h98, hR⟩ := hro
  refine z_start (lv := [.ref 88, .int x, .retAddr 0, .retAddr 0]) K_Mo_prove rfl rfl (Nat.le_refl _) (Nat.le_refl _) (Nat.le_of_ble_eq_true rfl) rfl ?_
  refine z_mu (show μ = pm (zu (zu (zu μ 98 (.inl (0, 12, .inl rw))) 91 (.inl (0, 618, .inl q91))) 93 (.inl (1, 100, .inl q93))) s (mk S mo pr fa sc ch rc ρ) by rw [zu_id h98, zu_id h91, zu_id h93, pm_id h2 h1]) ?_
  refine z_il1 (pc' := 1) 0 rfl rfl ?_
  refine z_iconst (v := nI 0) (by decide) (pc' := 2) 1 rfl rfl ?_
  refine z_iconst (v := nI 4) (by decide) (pc' := 3) 2 rfl rfl ?_
  refine z_callS1 (pc' := 6) 3 rfl rfl k_Mo_67 (c_Mo_in _ _ _) (by decide) (Nat.le_refl _) (Nat.le_refl _) rfl rfl (Nat.le_of_ble_eq_true rfl) ?_
  first | refine z_if_neB (pc' := 9) 4 rfl rfl (tgt := 11) rfl (fun h6 => ?_) (fun h6 => ?_) | refine z_if_neN (pc' := 9) 4 rfl rfl (tgt := 11) rfl (by omega) (fun h6 => ?_) (fun h6 => ?_) | refine z_if_ne (pc' := 9) 4 rfl rfl (tgt := 11) rfl (fun h6 => ?_) (fun h6 => ?_)
  · obtain ⟨x1, hx1, hx2, rfl⟩ := z_wi h6 (by decide) (by decide)
    refine z_al0 (pc' := 12) 7 rfl rfl ?_
    refine z_il1 (pc' := 13) 8 rfl rfl ?_
    refine z_callV1 (pc' := 16) 9 rfl rfl k_Mo_254 (by first | exact pm_f | exact pm_1 | (rw [pm_o (by decide)]; first | exact zu_s | (rw [zu_n (by decide)]; first | exact zu_s | (rw [zu_n (by decide)]; first | exact zu_s | (rw [zu_n (by decide)]; assumption))))) (c_Mo_monthsOf hi hmo (by omega)) (by decide) (Nat.le_refl _) (Nat.le_refl _) rfl rfl (Nat.le_of_ble_eq_true rfl) ?_
    refine z_is2 rfl rfl (pc' := 17) 10 rfl rfl ?_
    refine z_al0 (pc' := 18) 11 rfl rfl ?_
    refine z_il1 (pc' := 19) 12 rfl rfl ?_
    refine z_callV (pc' := 22) 13 rfl rfl k_Mo_281 (by first | exact pm_f | exact pm_1 | (rw [pm_o (by decide)]; first | exact zu_s | (rw [zu_n (by decide)]; first | exact zu_s | (rw [zu_n (by decide)]; first | exact zu_s | (rw [zu_n (by decide)]; assumption))))) (c_Mo_findBest hi hD (by omega) hmo hx) (by decide) (Nat.le_refl _) (Nat.le_refl _) rfl rfl (Nat.le_of_ble_eq_true rfl) (fun r19 μ19 h19 => ?_)
    obtain ⟨y0, s2, q2, y1, y2, y3⟩ := h19
    subst y0; subst y1
    dsimp only [Option.toList_none, List.nil_append]
    have hbp : (srF S D (nI 0) (min x1 (S 0 3 - mo)) (mo, pr, fa)).1.2.2 < 2 ^ 31 := sr_bp hi (by omega)
    refine z_al0 (pc' := 23) 14 rfl rfl ?_
    refine z_callV0 (pc' := 26) 15 rfl rfl k_Mo_194 (by first | exact pm_f | exact pm_1 | (rw [pm_o (by decide)]; first | exact zu_s | (rw [zu_n (by decide)]; first | exact zu_s | (rw [zu_n (by decide)]; first | exact zu_s | (rw [zu_n (by decide)]; assumption))))) (c_Mo_thinks) (by decide) (Nat.le_refl _) (Nat.le_refl _) rfl rfl (Nat.le_of_ble_eq_true rfl) ?_
    refine z_iconst (v := nI 0) (by decide) (pc' := 27) 16 rfl rfl ?_
    refine z_is3 rfl rfl (pc' := 28) 17 rfl rfl ?_
    refine z_mu (show _ = pm (zu (zu (zu μ 98 (.inl (0, 12, .inl rw))) 91 (.inl (0, 618, .inl (mk S mo pr fa sc ch rc ρ)))) 93 (.inl (1, 100, .inl q2))) (un s2 14 (s2 14)) (mk S mo pr fa sc ch rc ρ) by rw [un_id]) ?_
    refine zW_dm (show 7 ≤ 8 by decide) ?_
    refine l_Mo_prove hi hD (K := min x1 (S 0 3 - mo)) (by omega) hbp (y3.2.1 sr_pos).2 _ 0 mo pr fa sc _ _ _ (Nat.zero_add _) (by omega) hx (fun mo1 pr1 fa1 sc1 q1 v1 i1 => ?_)
    refine z_al0 (pc' := 103) 68 rfl rfl ?_
    refine z_callV0 (pc' := 106) 69 rfl rfl k_Mo_200 (by first | exact pm_f | exact pm_1 | (rw [pm_o (by decide)]; first | exact zu_s | (rw [zu_n (by decide)]; first | exact zu_s | (rw [zu_n (by decide)]; first | exact zu_s | (rw [zu_n (by decide)]; assumption))))) (c_Mo_putsBack) (by decide) (Nat.le_refl _) (Nat.le_refl _) rfl rfl (Nat.le_of_ble_eq_true rfl) ?_
    refine z_al0 (pc' := 107) 70 rfl rfl ?_
    refine z_il2 (pc' := 108) 71 rfl rfl ?_
    refine z_putf (pc' := 111) 72 rfl rfl f_Mo_304_12 (by first | exact pm_f | exact pm_1 | (rw [pm_o (by decide)]; first | exact zu_s | (rw [zu_n (by decide)]; first | exact zu_s | (rw [zu_n (by decide)]; first | exact zu_s | (rw [zu_n (by decide)]; assumption))))) rfl rfl (by rfl) (by rfl) ?_
    dsimp only [List.set]
    rw [mob_23, pm_s0]
    refine z_al0 (pc' := 112) 73 rfl rfl ?_
    refine z_getf (pc' := 115) 74 rfl rfl f_Mo_304_12 (by first | exact pm_f | exact pm_1 | (rw [pm_o (by decide)]; first | exact zu_s | (rw [zu_n (by decide)]; first | exact zu_s | (rw [zu_n (by decide)]; first | exact zu_s | (rw [zu_n (by decide)]; assumption))))) (by rfl) ?_
    refine z_te (show _ = nI (min x1 (S 0 3 - mo)) from rfl) ?_
    exact z_ireturn 75 rfl rfl (by first | rfl | exact zbo_nar) rfl rfl (by rw [r_prove, if_pos h6, tN_n (by omega)]; exact mKr_of hst ⟨y2.1, y2.2.1, y2.2.2.2⟩ rfl (by show min x1 (S 0 3 - mo) ≤ 4; omega) hD hk5)
  · refine z_iconst (v := (-1)) (by decide) (pc' := 10) 5 rfl rfl ?_
    exact z_ireturn 6 rfl rfl (by first | rfl | exact zbo_nar) rfl rfl (by rw [r_prove, if_neg h6]; exact mKr_of hst ⟨rfl, rfl, rfl⟩ h23 hR hD hk5)
set_option maxHeartbeats 4000000 in
set_option maxRecDepth 100000 in
theorem l_Mo_judgeW {G : zG} {n u : Nat} {Φ : zP} {ν : Nat → va_E} {s m : Nat → Int32} {R k : Nat} {x : Int32} {a b : Value} (h23 : s 23 = nI R) (hR : R ≤ 4) (hx : ¬ x = 0) (hk : k ≤ 5) (K : zW G 6 M_Mo_judge 138 [.ref 88, .int x, .int (nI k), a, b] [] n u (pm ν s m) n u Φ) : zW G 6 M_Mo_judge 8 [.ref 88, .int x, .int (nI k), a, b] [] n u (pm ν s m) n u Φ := by
  refine z_il2 (pc' := 9) 6 rfl rfl ?_
  refine z_al0 (pc' := 10) 7 rfl rfl ?_
  refine z_getf (pc' := 13) 8 rfl rfl f_Mo_304_12 (by first | exact pm_f | exact pm_1 | (rw [pm_o (by decide)]; assumption)) (by rfl) ?_
  rw [h23]
  first | refine z_icmp_geN (pc' := 16) 9 rfl rfl (tgt := 138) rfl (by omega) (by omega) (fun h13 => ?_) (fun h13 => ?_) | refine z_icmp_ge (pc' := 16) 9 rfl rfl (tgt := 138) rfl (fun h13 => ?_) (fun h13 => ?_)
  · exact K
  · refine z_il1 (pc' := 17) 10 rfl rfl ?_
    refine z_if_ne_t 11 rfl (tgt := 138) rfl hx ?_
    exact K
set_option maxHeartbeats 4000000 in
set_option maxRecDepth 100000 in
theorem l_Mo_judge {G : zG} {n u : Nat} {Φ : zP} {ν : Nat → va_E} {s : Nat → Int32} {S : Nat → Nat → Nat} {ch : Int32} {rc : Nat} {ρ w : Nat → Int32} {D : zD6} (hi : iS S) (hD : dzM ρ rc D) {rw : Nat → Int32} {R : Nat} (hR : R ≤ 4) (h23 : s 23 = nI R) : ∀ j k mo pr fa sc (q : Nat → Int32) v, k + j = R → mo ≤ 16 → iX S pr fa →
    (∀ mo' pr' fa' sc' (q' : Nat → Int32) v' i' a' b', zW G 6 M_Mo_judge 138 [.ref 88, .int (jdA S D rw j k (mo, pr, fa)), i', a', b'] [] n u (pm (zu (zu (zu ν 98 (.inl (0, 12, .inl rw))) 91 (.inl (0, 618, .inl w))) 93 (.inl (1, 100, .inl q'))) (un s 14 v') (mk S mo' pr' fa' sc' ch rc ρ)) n u Φ) →
    zW G 6 M_Mo_judge 8 [.ref 88, .int (nI 0), .int (nI k), .retAddr 0, .retAddr 0] [] n u (pm (zu (zu (zu ν 98 (.inl (0, 12, .inl rw))) 91 (.inl (0, 618, .inl w))) 93 (.inl (1, 100, .inl q))) (un s 14 v) (mk S mo pr fa sc ch rc ρ)) n u Φ
  | 0, k, mo, pr, fa, sc, q, v, e, hm, hx, Kk => by
    refine z_il2 (pc' := 9) 6 rfl rfl ?_
    refine z_al0 (pc' := 10) 7 rfl rfl ?_
    refine z_getf (pc' := 13) 8 rfl rfl f_Mo_304_12 (by first | exact pm_f | exact pm_1 | (rw [pm_o (by decide)]; first | exact zu_s | (rw [zu_n (by decide)]; first | exact zu_s | (rw [zu_n (by decide)]; first | exact zu_s | (rw [zu_n (by decide)]; assumption))))) (by rfl) ?_
    refine z_te (show _ = nI R from h23) ?_
    first | refine z_icmp_geN (pc' := 16) 9 rfl rfl (tgt := 138) rfl (by omega) (by omega) (fun h13 => ?_) (fun h13 => ?_) | refine z_icmp_ge (pc' := 16) 9 rfl rfl (tgt := 138) rfl (fun h13 => ?_) (fun h13 => ?_)
    · exact Kk _ _ _ _ _ _ _ _ _
    · exfalso; omega
  | j + 1, k, mo, pr, fa, sc, q, v, e, hm, hx, Kk => by
    have hi0 := hi.1
    have hi3 := hi.2.2.2.2.1
    refine z_il2 (pc' := 9) 6 rfl rfl ?_
    refine z_al0 (pc' := 10) 7 rfl rfl ?_
    refine z_getf (pc' := 13) 8 rfl rfl f_Mo_304_12 (by first | exact pm_f | exact pm_1 | (rw [pm_o (by decide)]; first | exact zu_s | (rw [zu_n (by decide)]; first | exact zu_s | (rw [zu_n (by decide)]; first | exact zu_s | (rw [zu_n (by decide)]; assumption))))) (by rfl) ?_
    refine z_te (show _ = nI R from h23) ?_
    first | refine z_icmp_geN (pc' := 16) 9 rfl rfl (tgt := 138) rfl (by omega) (by omega) (fun h13 => ?_) (fun h13 => ?_) | refine z_icmp_ge (pc' := 16) 9 rfl rfl (tgt := 138) rfl (fun h13 => ?_) (fun h13 => ?_)
    · exfalso; omega
    · refine z_il1 (pc' := 17) 10 rfl rfl ?_
      refine z_if_ne_f (pc' := 20) 11 rfl rfl (tgt := 138) rfl (show nI 0 = 0 from rfl) ?_
      refine z_al0 (pc' := 21) 12 rfl rfl ?_
      refine z_getf (pc' := 24) 13 rfl rfl f_Mo_38_12 (by first | exact pm_f | exact pm_1 | (rw [pm_o (by decide)]; first | exact zu_s | (rw [zu_n (by decide)]; first | exact zu_s | (rw [zu_n (by decide)]; first | exact zu_s | (rw [zu_n (by decide)]; assumption))))) (by rfl) ?_
      refine z_iconst (v := nI 3) (by decide) (pc' := 25) 14 rfl rfl ?_
      refine z_il2 (pc' := 26) 15 rfl rfl ?_
      first | refine z_imulN (pc' := 27) 16 rfl rfl ?_ | refine z_imul (pc' := 27) 16 rfl rfl ?_
      refine z_iald (pc' := 28) 17 rfl rfl (by first | exact pm_f | exact pm_1 | (rw [pm_o (by decide)]; first | exact zu_s | (rw [zu_n (by decide)]; first | exact zu_s | (rw [zu_n (by decide)]; first | exact zu_s | (rw [zu_n (by decide)]; assumption))))) (by omega) (by decide) ?_
      refine z_iconst (v := nI 0) (by decide) (pc' := 29) 18 rfl rfl ?_
      refine z_al0 (pc' := 30) 19 rfl rfl ?_
      refine z_getf (pc' := 33) 20 rfl rfl f_Mo_9_12 (by first | exact pm_f | exact pm_1 | (rw [pm_o (by decide)]; first | exact zu_s | (rw [zu_n (by decide)]; first | exact zu_s | (rw [zu_n (by decide)]; first | exact zu_s | (rw [zu_n (by decide)]; assumption))))) (by rfl) ?_
      refine z_iconst (v := nI 3) (by decide) (pc' := 34) 21 rfl rfl ?_
      refine z_iald (pc' := 35) 22 rfl rfl (by first | exact pm_f | exact pm_1 | (rw [pm_o (by decide)]; first | exact zu_s | (rw [zu_n (by decide)]; first | exact zu_s | (rw [zu_n (by decide)]; first | exact zu_s | (rw [zu_n (by decide)]; assumption))))) (by omega) (by decide) ?_
      rw [mk_3]
      refine z_callS1 (pc' := 38) 23 rfl rfl k_Mo_67 (c_Mo_in _ _ _) (by decide) (Nat.le_refl _) (Nat.le_refl _) rfl rfl (Nat.le_of_ble_eq_true rfl) ?_
      first | refine z_if_eqB (pc' := 41) 24 rfl rfl (tgt := 52) rfl (fun h38 => ?_) (fun h38 => ?_) | refine z_if_eqN (pc' := 41) 24 rfl rfl (tgt := 52) rfl (by omega) (fun h38 => ?_) (fun h38 => ?_) | refine z_if_eq (pc' := 41) 24 rfl rfl (tgt := 52) rfl (fun h38 => ?_) (fun h38 => ?_)
      · refine z_iconst (v := nI 0) (by decide) (pc' := 53) 30 rfl rfl ?_
        refine z_is3 rfl rfl (pc' := 54) 31 rfl rfl ?_
        refine z_il3 (pc' := 55) 32 rfl rfl ?_
        refine z_if_eq_t 33 rfl (tgt := 75) rfl rfl ?_
        refine z_iconst (v := nI 0) (by decide) (pc' := 76) 45 rfl rfl ?_
        refine z_is4 rfl rfl (pc' := 78) 46 rfl rfl ?_
        refine z_il3 (pc' := 79) 47 rfl rfl ?_
        refine z_if_eq_t 48 rfl (tgt := 118) rfl rfl ?_
        refine z_iconst (v := nI 0) (by decide) (pc' := 119) 72 rfl rfl ?_
        refine z_is3 rfl rfl (pc' := 120) 73 rfl rfl ?_
        refine z_il3 (pc' := 121) 74 rfl rfl ?_
        refine z_if_eq_t 75 rfl (tgt := 128) rfl rfl ?_
        refine z_iconst (v := nI 1) (by decide) (pc' := 129) 78 rfl rfl ?_
        refine z_il2 (pc' := 130) 79 rfl rfl ?_
        first | refine z_iaddN (pc' := 131) 80 rfl rfl ?_ | refine z_iadd (pc' := 131) 80 rfl rfl ?_
        refine z_is1 rfl rfl (pc' := 132) 81 rfl rfl ?_
        first | refine z_inc2N rfl rfl (pc' := 135) 82 rfl rfl ?_ | refine z_inc2 rfl rfl rfl (pc' := 135) 82 rfl rfl ?_
        refine z_goto 83 rfl (tgt := 8) rfl ?_
        rw [jdA, if_neg (fun z => h38 z.2.1), Nat.add_comm k 1] at Kk
        refine l_Mo_judgeW h23 hR (nI_ne0 (by omega) (by omega)) (by omega) ?_
        exact Kk _ _ _ _ _ _ _ _ _
      · refine z_al0 (pc' := 42) 25 rfl rfl ?_
        refine z_callV1 (pc' := 45) 26 rfl rfl k_Mo_124 (by first | exact pm_f | exact pm_1 | (rw [pm_o (by decide)]; first | exact zu_s | (rw [zu_n (by decide)]; first | exact zu_s | (rw [zu_n (by decide)]; first | exact zu_s | (rw [zu_n (by decide)]; assumption))))) (c_Mo_isOver hi hm) (by decide) (Nat.le_refl _) (Nat.le_refl _) rfl rfl (Nat.le_of_ble_eq_true rfl) ?_
        first | refine z_if_neB (pc' := 48) 27 rfl rfl (tgt := 52) rfl (fun h45 => ?_) (fun h45 => ?_) | refine z_if_neN (pc' := 48) 27 rfl rfl (tgt := 52) rfl (by omega) (fun h45 => ?_) (fun h45 => ?_) | refine z_if_ne (pc' := 48) 27 rfl rfl (tgt := 52) rfl (fun h45 => ?_) (fun h45 => ?_)
        · refine z_iconst (v := nI 0) (by decide) (pc' := 53) 30 rfl rfl ?_
          refine z_is3 rfl rfl (pc' := 54) 31 rfl rfl ?_
          refine z_il3 (pc' := 55) 32 rfl rfl ?_
          refine z_if_eq_t 33 rfl (tgt := 75) rfl rfl ?_
          refine z_iconst (v := nI 0) (by decide) (pc' := 76) 45 rfl rfl ?_
          refine z_is4 rfl rfl (pc' := 78) 46 rfl rfl ?_
          refine z_il3 (pc' := 79) 47 rfl rfl ?_
          refine z_if_eq_t 48 rfl (tgt := 118) rfl rfl ?_
          refine z_iconst (v := nI 0) (by decide) (pc' := 119) 72 rfl rfl ?_
          refine z_is3 rfl rfl (pc' := 120) 73 rfl rfl ?_
          refine z_il3 (pc' := 121) 74 rfl rfl ?_
          refine z_if_eq_t 75 rfl (tgt := 128) rfl rfl ?_
          refine z_iconst (v := nI 1) (by decide) (pc' := 129) 78 rfl rfl ?_
          refine z_il2 (pc' := 130) 79 rfl rfl ?_
          first | refine z_iaddN (pc' := 131) 80 rfl rfl ?_ | refine z_iadd (pc' := 131) 80 rfl rfl ?_
          refine z_is1 rfl rfl (pc' := 132) 81 rfl rfl ?_
          first | refine z_inc2N rfl rfl (pc' := 135) 82 rfl rfl ?_ | refine z_inc2 rfl rfl rfl (pc' := 135) 82 rfl rfl ?_
          refine z_goto 83 rfl (tgt := 8) rfl ?_
          rw [jdA, if_neg (fun z => by have := z.1; omega), Nat.add_comm k 1] at Kk
          refine l_Mo_judgeW h23 hR (nI_ne0 (by omega) (by omega)) (by omega) ?_
          exact Kk _ _ _ _ _ _ _ _ _
        · obtain ⟨a1, ha1, ea⟩ : ∃ a1, a1 ≤ S 0 0 ∧ rw (3 * k) = nI a1 := by
            obtain ⟨a1, _, h9, e9⟩ := z_wi (a := 0) h38 (by omega) (by decide)
            exact ⟨a1, h9, e9⟩
          have hx2 := iX_stp hi (D := D) (act := a1) (t := (mo, pr, fa)) hx
          refine z_iconst (v := nI 1) (by decide) (pc' := 49) 28 rfl rfl ?_
          refine z_goto 29 rfl (tgt := 53) rfl ?_
          refine z_is3 rfl rfl (pc' := 54) 31 rfl rfl ?_
          refine z_il3 (pc' := 55) 32 rfl rfl ?_
          refine z_if_eq_f (pc' := 58) 33 rfl rfl (tgt := 75) rfl (by decide) ?_
          refine z_al0 (pc' := 59) 34 rfl rfl ?_
          refine z_al0 (pc' := 60) 35 rfl rfl ?_
          refine z_getf (pc' := 63) 36 rfl rfl f_Mo_38_12 (by first | exact pm_f | exact pm_1 | (rw [pm_o (by decide)]; first | exact zu_s | (rw [zu_n (by decide)]; first | exact zu_s | (rw [zu_n (by decide)]; first | exact zu_s | (rw [zu_n (by decide)]; assumption))))) (by rfl) ?_
          refine z_iconst (v := nI 3) (by decide) (pc' := 64) 37 rfl rfl ?_
          refine z_il2 (pc' := 65) 38 rfl rfl ?_
          first | refine z_imulN (pc' := 66) 39 rfl rfl ?_ | refine z_imul (pc' := 66) 39 rfl rfl ?_
          refine z_iald (pc' := 67) 40 rfl rfl (by first | exact pm_f | exact pm_1 | (rw [pm_o (by decide)]; first | exact zu_s | (rw [zu_n (by decide)]; first | exact zu_s | (rw [zu_n (by decide)]; first | exact zu_s | (rw [zu_n (by decide)]; assumption))))) (by omega) (by decide) ?_
          rw [ea]
          refine z_iconst (v := nI 1) (by decide) (pc' := 68) 41 rfl rfl ?_
          refine z_isub (pc' := 69) 42 rfl rfl ?_
          refine z_callVX1 (pc' := 72) 43 rfl rfl k_Mo_227 (by first | exact pm_f | exact pm_1 | (rw [pm_o (by decide)]; first | exact zu_s | (rw [zu_n (by decide)]; first | exact zu_s | (rw [zu_n (by decide)]; first | exact zu_s | (rw [zu_n (by decide)]; assumption))))) (c_Mo_goes (act := a1) hi hD (by omega) (by omega) hx) (by decide) (Nat.le_refl _) (Nat.le_refl _) rfl rfl (Nat.le_of_ble_eq_true rfl) (fun q69 => ?_)
          refine z_goto 44 rfl (tgt := 76) rfl ?_
          refine z_is4 rfl rfl (pc' := 78) 46 rfl rfl ?_
          refine z_il3 (pc' := 79) 47 rfl rfl ?_
          refine z_if_eq_f (pc' := 82) 48 rfl rfl (tgt := 118) rfl (by decide) ?_
          refine z_il4 (pc' := 84) 49 rfl rfl ?_
          refine z_al0 (pc' := 85) 50 rfl rfl ?_
          refine z_getf (pc' := 88) 51 rfl rfl f_Mo_38_12 (by first | exact pm_f | exact pm_1 | (rw [pm_o (by decide)]; first | exact zu_s | (rw [zu_n (by decide)]; first | exact zu_s | (rw [zu_n (by decide)]; first | exact zu_s | (rw [zu_n (by decide)]; assumption))))) (by rfl) ?_
          refine z_iconst (v := nI 3) (by decide) (pc' := 89) 52 rfl rfl ?_
          refine z_il2 (pc' := 90) 53 rfl rfl ?_
          first | refine z_imulN (pc' := 91) 54 rfl rfl ?_ | refine z_imul (pc' := 91) 54 rfl rfl ?_
          refine z_iconst (v := nI 1) (by decide) (pc' := 92) 55 rfl rfl ?_
          first | refine z_iaddN (pc' := 93) 56 rfl rfl ?_ | refine z_iadd (pc' := 93) 56 rfl rfl ?_
          refine z_iald (pc' := 94) 57 rfl rfl (by first | exact pm_f | exact pm_1 | (rw [pm_o (by decide)]; first | exact zu_s | (rw [zu_n (by decide)]; first | exact zu_s | (rw [zu_n (by decide)]; first | exact zu_s | (rw [zu_n (by decide)]; assumption))))) (by omega) (by decide) ?_
          first | refine z_icmp_ne (pc' := 97) 58 rfl rfl (tgt := 118) rfl (fun h94 => ?_) (fun h94 => ?_)
          · refine z_iconst (v := nI 0) (by decide) (pc' := 119) 72 rfl rfl ?_
            refine z_is3 rfl rfl (pc' := 120) 73 rfl rfl ?_
            refine z_il3 (pc' := 121) 74 rfl rfl ?_
            refine z_if_eq_t 75 rfl (tgt := 128) rfl rfl ?_
            refine z_iconst (v := nI 1) (by decide) (pc' := 129) 78 rfl rfl ?_
            refine z_il2 (pc' := 130) 79 rfl rfl ?_
            first | refine z_iaddN (pc' := 131) 80 rfl rfl ?_ | refine z_iadd (pc' := 131) 80 rfl rfl ?_
            refine z_is1 rfl rfl (pc' := 132) 81 rfl rfl ?_
            first | refine z_inc2N rfl rfl (pc' := 135) 82 rfl rfl ?_ | refine z_inc2 rfl rfl rfl (pc' := 135) 82 rfl rfl ?_
            refine z_goto 83 rfl (tgt := 8) rfl ?_
            rw [jdA, if_neg (fun z => h94 (by have := z.2.2.1; rw [ea, tN_n (by omega)] at this; exact this.symm)), Nat.add_comm k 1] at Kk
            rw [un_un]
            refine l_Mo_judgeW h23 hR (nI_ne0 (by omega) (by omega)) (by omega) ?_
            exact Kk _ _ _ _ _ _ _ _ _
          · refine z_al0 (pc' := 98) 59 rfl rfl ?_
            refine z_callV1 (pc' := 101) 60 rfl rfl k_Mo_260 (by first | exact pm_f | exact pm_1 | (rw [pm_o (by decide)]; first | exact zu_s | (rw [zu_n (by decide)]; first | exact zu_s | (rw [zu_n (by decide)]; first | exact zu_s | (rw [zu_n (by decide)]; assumption))))) (c_Mo_promised hi (fun j => (hx2 j).1)) (by decide) (Nat.le_refl _) (Nat.le_refl _) rfl rfl (Nat.le_of_ble_eq_true rfl) ?_
            refine z_al0 (pc' := 102) 61 rfl rfl ?_
            refine z_getf (pc' := 105) 62 rfl rfl f_Mo_38_12 (by first | exact pm_f | exact pm_1 | (rw [pm_o (by decide)]; first | exact zu_s | (rw [zu_n (by decide)]; first | exact zu_s | (rw [zu_n (by decide)]; first | exact zu_s | (rw [zu_n (by decide)]; assumption))))) (by rfl) ?_
            refine z_iconst (v := nI 3) (by decide) (pc' := 106) 63 rfl rfl ?_
            refine z_il2 (pc' := 107) 64 rfl rfl ?_
            first | refine z_imulN (pc' := 108) 65 rfl rfl ?_ | refine z_imul (pc' := 108) 65 rfl rfl ?_
            refine z_iconst (v := nI 2) (by decide) (pc' := 109) 66 rfl rfl ?_
            first | refine z_iaddN (pc' := 110) 67 rfl rfl ?_ | refine z_iadd (pc' := 110) 67 rfl rfl ?_
            refine z_iald (pc' := 111) 68 rfl rfl (by first | exact pm_f | exact pm_1 | (rw [pm_o (by decide)]; first | exact zu_s | (rw [zu_n (by decide)]; first | exact zu_s | (rw [zu_n (by decide)]; first | exact zu_s | (rw [zu_n (by decide)]; assumption))))) (by omega) (by decide) ?_
            first | refine z_icmp_ne (pc' := 114) 69 rfl rfl (tgt := 118) rfl (fun h111 => ?_) (fun h111 => ?_)
            · refine z_iconst (v := nI 0) (by decide) (pc' := 119) 72 rfl rfl ?_
              refine z_is3 rfl rfl (pc' := 120) 73 rfl rfl ?_
              refine z_il3 (pc' := 121) 74 rfl rfl ?_
              refine z_if_eq_t 75 rfl (tgt := 128) rfl rfl ?_
              refine z_iconst (v := nI 1) (by decide) (pc' := 129) 78 rfl rfl ?_
              refine z_il2 (pc' := 130) 79 rfl rfl ?_
              first | refine z_iaddN (pc' := 131) 80 rfl rfl ?_ | refine z_iadd (pc' := 131) 80 rfl rfl ?_
              refine z_is1 rfl rfl (pc' := 132) 81 rfl rfl ?_
              first | refine z_inc2N rfl rfl (pc' := 135) 82 rfl rfl ?_ | refine z_inc2 rfl rfl rfl (pc' := 135) 82 rfl rfl ?_
              refine z_goto 83 rfl (tgt := 8) rfl ?_
              rw [jdA, if_neg (fun z => h111 (by have := z.2.2.2; rw [ea, tN_n (by omega)] at this; exact this.symm)), Nat.add_comm k 1] at Kk
              rw [un_un]
              refine l_Mo_judgeW h23 hR (nI_ne0 (by omega) (by omega)) (by omega) ?_
              exact Kk _ _ _ _ _ _ _ _ _
            · refine z_iconst (v := nI 1) (by decide) (pc' := 115) 70 rfl rfl ?_
              refine z_goto 71 rfl (tgt := 119) rfl ?_
              refine z_is3 rfl rfl (pc' := 120) 73 rfl rfl ?_
              refine z_il3 (pc' := 121) 74 rfl rfl ?_
              refine z_if_eq_f (pc' := 124) 75 rfl rfl (tgt := 128) rfl (by decide) ?_
              refine z_iconst (v := nI 0) (by decide) (pc' := 125) 76 rfl rfl ?_
              refine z_goto 77 rfl (tgt := 131) rfl ?_
              refine z_is1 rfl rfl (pc' := 132) 81 rfl rfl ?_
              first | refine z_inc2N rfl rfl (pc' := 135) 82 rfl rfl ?_ | refine z_inc2 rfl rfl rfl (pc' := 135) 82 rfl rfl ?_
              refine z_goto 83 rfl (tgt := 8) rfl ?_
              refine z_less3 (z_less4 ?_)
              have e9 : jdA S D rw (j + 1) k (mo, pr, fa) = jdA S D rw j (k + 1) (stp S D a1 (mo, pr, fa)) := by
                rw [jdA, ea, tN_n (by omega), if_pos ⟨by show mo < S 0 3; omega, ⟨by rw [← ea]; exact h38.1, by rw [← ea]; exact h38.2⟩, h94.symm, h111.symm⟩]
              rw [e9] at Kk
              rw [un_un]
              exact l_Mo_judge hi hD hR h23 j (k + 1) _ _ _ _ _ _ (by omega) (by omega) (mon_ok hi hx) Kk
set_option maxHeartbeats 4000000 in
set_option maxRecDepth 100000 in
theorem c_Mo_judge {G : zG} {n u : Nat} {μ : Nat → va_E} {κ : zκ} {s : Nat → Int32} (h : mst μ s κ) {R : Nat} {rw : Nat → Int32} (hro : isRo μ s R rw) :
    zMet G 6 M_Mo_judge [.ref 88] n u μ n u (mKr μ s κ (f_judge κ R rw) R rw) := by
  obtain ⟨S, mo, pr, fa, sc, ch, rc, D⟩ := κ
  have hst := h
  obtain ⟨⟨ρ, h1, hD⟩, h2, ⟨q93, h93⟩, ⟨q91, h91⟩, ⟨q94, h94⟩, ⟨q95, h95⟩, ⟨q96, h96⟩, ⟨q97, h97⟩, h5⟩ := h
  have hk5 := h5
  obtain ⟨hi, hx, hmo, hrc⟩ := h5
  have hi0 := hi.1
  have hi1 := hi.2.1
  have hi2 := hi.2.2.1
  have hi3 := hi.2.2.2.2.1
  have hm16 : mo ≤ 16 := by omega
  obtain ⟨h23, h98, hR⟩ := hro
  refine z_start (lv := [.ref 88, .retAddr 0, .retAddr 0, .retAddr 0, .retAddr 0]) K_Mo_judge rfl rfl (Nat.le_refl _) (Nat.le_refl _) (Nat.le_of_ble_eq_true rfl) rfl ?_
  refine z_mu (show μ = pm (zu (zu (zu μ 98 (.inl (0, 12, .inl rw))) 91 (.inl (0, 618, .inl q91))) 93 (.inl (1, 100, .inl q93))) s (mk S mo pr fa sc ch rc ρ) by rw [zu_id h98, zu_id h91, zu_id h93, pm_id h2 h1]) ?_
  refine z_al0 (pc' := 1) 0 rfl rfl ?_
  refine z_callV0 (pc' := 4) 1 rfl rfl k_Mo_194 (by first | exact pm_f | exact pm_1 | (rw [pm_o (by decide)]; first | exact zu_s | (rw [zu_n (by decide)]; first | exact zu_s | (rw [zu_n (by decide)]; first | exact zu_s | (rw [zu_n (by decide)]; assumption))))) (c_Mo_thinks) (by decide) (Nat.le_refl _) (Nat.le_refl _) rfl rfl (Nat.le_of_ble_eq_true rfl) ?_
  refine z_iconst (v := nI 0) (by decide) (pc' := 5) 2 rfl rfl ?_
  refine z_is1 rfl rfl (pc' := 6) 3 rfl rfl ?_
  refine z_iconst (v := nI 0) (by decide) (pc' := 7) 4 rfl rfl ?_
  refine z_is2 rfl rfl (pc' := 8) 5 rfl rfl ?_
  refine z_mu (show _ = pm (zu (zu (zu μ 98 (.inl (0, 12, .inl rw))) 91 (.inl (0, 618, .inl (mk S mo pr fa sc ch rc ρ)))) 93 (.inl (1, 100, .inl q93))) (un s 14 (s 14)) (mk S mo pr fa sc ch rc ρ) by rw [un_id]) ?_
  refine l_Mo_judge hi hD hR h23 R 0 _ _ _ _ _ _ (Nat.zero_add _) hm16 hx (fun mo1 pr1 fa1 sc1 q1 v1 i1 a1 b1 => ?_)
  refine z_al0 (pc' := 139) 84 rfl rfl ?_
  refine z_callV0 (pc' := 142) 85 rfl rfl k_Mo_200 (by first | exact pm_f | exact pm_1 | (rw [pm_o (by decide)]; first | exact zu_s | (rw [zu_n (by decide)]; first | exact zu_s | (rw [zu_n (by decide)]; first | exact zu_s | (rw [zu_n (by decide)]; assumption))))) (c_Mo_putsBack) (by decide) (Nat.le_refl _) (Nat.le_refl _) rfl rfl (Nat.le_of_ble_eq_true rfl) ?_
  refine z_il1 (pc' := 143) 86 rfl rfl ?_
  exact z_ireturn 87 rfl rfl (by first | rfl | exact zbo_nar) rfl rfl (by exact mKr_of hst ⟨rfl, rfl, rfl⟩ h23 hR hD hk5)
