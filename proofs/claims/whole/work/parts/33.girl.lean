theorem un_sw {α : Type} {f : Nat → α} {a b : Nat} {x y : α} (h : a ≠ b) : un (un f a x) b y = un (un f b y) a x := by
  funext j
  unfold un
  by_cases h1 : j = a
  · subst h1; rw [if_neg h, if_pos rfl, if_pos rfl]
  · by_cases h2 : j = b
    · subst h2; rw [if_pos rfl, if_neg h1, if_pos rfl]
    · simp [h1, h2]
def f_girl : zκ → Int32 → Int32 → Int32 → Int32 × zκ
  | (S, mo, pr, fa, sc, ch, rc, D), x, y, z =>
    if (nI 1 ≤ x ∧ x ≤ nI 5) ∧ (nI 0 ≤ y ∧ y ≤ nI 7) ∧ (nI 1 ≤ z ∧ z ≤ nI 9) then
      (if S 0 0 = 6 then (-2, (S, mo, pr, fa, sc, ch, rc, D))
       else (nI (S 0 0), (gS' S (tN x) (tN y) (tN z), mo, un pr (S 0 0) 6, un fa (S 0 0) (tN z), sc, ch, rc, D)))
    else (-1, (S, mo, pr, fa, sc, ch, rc, D))
set_option maxHeartbeats 4000000 in
set_option maxRecDepth 100000 in
theorem c_Wb_girl {G : zG} {n u : Nat} {μ : Nat → va_E} {κ : zκ} {kp : Int32} {ac : Value} (h : cst μ κ) (hob : isOb μ kp ac) (x y z : Int32) :
    zMet G 2 M_Wb_girl [.ref 4, .int x, .int y, .int z] n u μ n u (cK μ (f_girl κ x y z)) := by
  obtain ⟨S, mo, pr, fa, sc, ch, rc, D⟩ := κ
  have hst := h
  obtain ⟨h1, ⟨cs, q, h2⟩, ⟨β, its, h3, h3a, h3b⟩, ⟨c23, h4⟩, h5⟩ := h
  have hk5 := h5
  obtain ⟨hi, hx, hmo, hrc⟩ := h5
  have hi0 := hi.1
  have hi1 := hi.2.1
  have hi2 := hi.2.2.1
  have hi3 := hi.2.2.2.2.1
  refine z_start (lv := [.ref 4, .int x, .int y, .int z]) K_Wb_girl rfl rfl (Nat.le_refl _) (Nat.le_refl _) (Nat.le_of_ble_eq_true rfl) rfl ?_
  unfold isOb at hob
  refine z_mu (pcc_id h1 h2).symm ?_
  refine z_il1 (pc' := 1) 0 rfl rfl ?_
  refine z_iconst (v := nI 1) (by decide) (pc' := 2) 1 rfl rfl ?_
  refine z_iconst (v := nI 5) (by decide) (pc' := 3) 2 rfl rfl ?_
  refine z_callS1 (pc' := 6) 3 rfl rfl k_Wb_72 (c_Wb_within _ _ _) (by decide) (Nat.le_refl _) (Nat.le_refl _) rfl rfl (Nat.le_of_ble_eq_true rfl) ?_
  first | refine z_if_eqB (pc' := 9) 4 rfl rfl (tgt := 29) rfl (fun h6 => ?_) (fun h6 => ?_) | refine z_if_eqN (pc' := 9) 4 rfl rfl (tgt := 29) rfl (by omega) (fun h6 => ?_) (fun h6 => ?_) | refine z_if_eq (pc' := 9) 4 rfl rfl (tgt := 29) rfl (fun h6 => ?_) (fun h6 => ?_)
  · refine z_iconst (v := (-1)) (by decide) (pc' := 30) 15 rfl rfl ?_
    exact z_ireturn 16 rfl rfl (by first | rfl | exact zbo_nar) rfl rfl (by show cK μ _ _ _; rw [f_girl, if_neg (fun z0 => h6 z0.1)]; exact cK_of hst rfl rfl (hk5))
  · refine z_il2 (pc' := 10) 5 rfl rfl ?_
    refine z_iconst (v := nI 0) (by decide) (pc' := 11) 6 rfl rfl ?_
    refine z_bipush (v := nI 7) (by decide) (pc' := 13) 7 rfl rfl ?_
    refine z_callS1 (pc' := 16) 8 rfl rfl k_Wb_72 (c_Wb_within _ _ _) (by decide) (Nat.le_refl _) (Nat.le_refl _) rfl rfl (Nat.le_of_ble_eq_true rfl) ?_
    first | refine z_if_eqB (pc' := 19) 9 rfl rfl (tgt := 29) rfl (fun h16 => ?_) (fun h16 => ?_) | refine z_if_eqN (pc' := 19) 9 rfl rfl (tgt := 29) rfl (by omega) (fun h16 => ?_) (fun h16 => ?_) | refine z_if_eq (pc' := 19) 9 rfl rfl (tgt := 29) rfl (fun h16 => ?_) (fun h16 => ?_)
    · refine z_iconst (v := (-1)) (by decide) (pc' := 30) 15 rfl rfl ?_
      exact z_ireturn 16 rfl rfl (by first | rfl | exact zbo_nar) rfl rfl (by show cK μ _ _ _; rw [f_girl, if_neg (fun z0 => h16 z0.2.1)]; exact cK_of hst rfl rfl (hk5))
    · refine z_il3 (pc' := 20) 10 rfl rfl ?_
      refine z_iconst (v := nI 1) (by decide) (pc' := 21) 11 rfl rfl ?_
      refine z_bipush (v := nI 9) (by decide) (pc' := 23) 12 rfl rfl ?_
      refine z_callS1 (pc' := 26) 13 rfl rfl k_Wb_72 (c_Wb_within _ _ _) (by decide) (Nat.le_refl _) (Nat.le_refl _) rfl rfl (Nat.le_of_ble_eq_true rfl) ?_
      first | refine z_if_neB (pc' := 29) 14 rfl rfl (tgt := 31) rfl (fun h26 => ?_) (fun h26 => ?_) | refine z_if_neN (pc' := 29) 14 rfl rfl (tgt := 31) rfl (by omega) (fun h26 => ?_) (fun h26 => ?_) | refine z_if_ne (pc' := 29) 14 rfl rfl (tgt := 31) rfl (fun h26 => ?_) (fun h26 => ?_)
      · obtain ⟨x1, hx1, hx2, rfl⟩ := z_wi h6 (by decide) (by decide)
        obtain ⟨y1, hy1, hy2, rfl⟩ := z_wi h16 (by decide) (by decide)
        obtain ⟨z1, hz1, hz2, rfl⟩ := z_wi h26 (by decide) (by decide)
        refine z_al0 (pc' := 32) 17 rfl rfl ?_
        refine z_getf (pc' := 35) 18 rfl rfl f_Wb_10_11 (by first | exact pcc_5 | exact pcc_6 | exact pcc_7 | exact pcc_8 | exact pcc_9 | exact pcc_10 | exact pcc_11 | exact pcc_12 | exact pcc_13 | exact pcc_14 | exact pcc_15 | exact pcc_22 | (rw [pcc_o (by decide)]; assumption)) (by rfl) ?_
        refine z_getf (pc' := 38) 19 rfl rfl f_Wb_76_3 (by first | exact pcc_5 | exact pcc_6 | exact pcc_7 | exact pcc_8 | exact pcc_9 | exact pcc_10 | exact pcc_11 | exact pcc_12 | exact pcc_13 | exact pcc_14 | exact pcc_15 | exact pcc_22 | (rw [pcc_o (by decide)]; assumption)) (by rfl) ?_
        refine z_bipush (v := nI 6) (by decide) (pc' := 40) 20 rfl rfl ?_
        first | refine z_icmp_neN (pc' := 43) 21 rfl rfl (tgt := 46) rfl (by omega) (by omega) (fun h40 => ?_) (fun h40 => ?_) | refine z_icmp_ne (pc' := 43) 21 rfl rfl (tgt := 46) rfl (fun h40 => ?_) (fun h40 => ?_)
        · refine z_al0 (pc' := 47) 24 rfl rfl ?_
          refine z_getf (pc' := 50) 25 rfl rfl f_Wb_10_11 (by first | exact pcc_5 | exact pcc_6 | exact pcc_7 | exact pcc_8 | exact pcc_9 | exact pcc_10 | exact pcc_11 | exact pcc_12 | exact pcc_13 | exact pcc_14 | exact pcc_15 | exact pcc_22 | (rw [pcc_o (by decide)]; assumption)) (by rfl) ?_
          refine z_il1 (pc' := 51) 26 rfl rfl ?_
          refine z_il2 (pc' := 52) 27 rfl rfl ?_
          refine z_il3 (pc' := 53) 28 rfl rfl ?_
          refine z_callV1 (pc' := 56) 29 rfl rfl k_Wb_80 (by first | exact pcc_5 | exact pcc_6 | exact pcc_7 | exact pcc_8 | exact pcc_9 | exact pcc_10 | exact pcc_11 | exact pcc_12 | exact pcc_13 | exact pcc_14 | exact pcc_15 | exact pcc_22 | (rw [pcc_o (by decide)]; assumption)) (c_Co_addGirl hi (by omega) (by omega)) (by decide) (Nat.le_refl _) (Nat.le_refl _) rfl rfl (Nat.le_of_ble_eq_true rfl) ?_
          exact z_ireturn 30 rfl rfl (by first | rfl | exact zbo_nar) rfl rfl (by show cK μ _ _ _; rw [f_girl, if_pos ⟨h6, h16, h26⟩, if_neg h40, tN_n (by omega), tN_n (by omega), tN_n (by omega)]; exact cK_of hst rfl rfl (⟨gS'_ok hi (by omega) hx2 hy2 hz2 hz1, gX'_ok hx hz2 hz1, hmo, hrc⟩))
        · refine z_bipush (v := (-2)) (by decide) (pc' := 45) 22 rfl rfl ?_
          exact z_ireturn 23 rfl rfl (by first | rfl | exact zbo_nar) rfl rfl (by show cK μ _ _ _; rw [f_girl, if_pos ⟨h6, h16, h26⟩, if_pos h40]; exact cK_of hst rfl rfl (hk5))
      · refine z_iconst (v := (-1)) (by decide) (pc' := 30) 15 rfl rfl ?_
        exact z_ireturn 16 rfl rfl (by first | rfl | exact zbo_nar) rfl rfl (by show cK μ _ _ _; rw [f_girl, if_neg (fun z0 => h26 z0.2.2)]; exact cK_of hst rfl rfl (hk5))
set_option maxHeartbeats 4000000 in
set_option maxRecDepth 100000 in
theorem c_Mo_girl {G : zG} {n u : Nat} {μ : Nat → va_E} {κ : zκ} {s : Nat → Int32} (h : mst μ s κ) (x y z : Int32) :
    zMet G 1 M_Mo_girl [.ref 88, .int x, .int y, .int z] n u μ n u (mK μ s (f_girl κ x y z)) := by
  obtain ⟨S, mo, pr, fa, sc, ch, rc, D⟩ := κ
  have hst := h
  obtain ⟨⟨ρ, h1, hD⟩, h2, ⟨q93, h93⟩, ⟨q91, h91⟩, ⟨q94, h94⟩, ⟨q95, h95⟩, ⟨q96, h96⟩, ⟨q97, h97⟩, h5⟩ := h
  have hk5 := h5
  obtain ⟨hi, hx, hmo, hrc⟩ := h5
  have hi0 := hi.1
  have hi1 := hi.2.1
  have hi2 := hi.2.2.1
  have hi3 := hi.2.2.2.2.1
  refine z_start (lv := [.ref 88, .int x, .int y, .int z, .retAddr 0]) K_Mo_girl rfl rfl (Nat.le_refl _) (Nat.le_refl _) (Nat.le_of_ble_eq_true rfl) rfl ?_
  refine z_mu (pm_id h2 h1).symm ?_
  refine z_il1 (pc' := 1) 0 rfl rfl ?_
  refine z_iconst (v := nI 1) (by decide) (pc' := 2) 1 rfl rfl ?_
  refine z_iconst (v := nI 5) (by decide) (pc' := 3) 2 rfl rfl ?_
  refine z_callS1 (pc' := 6) 3 rfl rfl k_Mo_67 (c_Mo_in _ _ _) (by decide) (Nat.le_refl _) (Nat.le_refl _) rfl rfl (Nat.le_of_ble_eq_true rfl) ?_
  first | refine z_if_eqB (pc' := 9) 4 rfl rfl (tgt := 29) rfl (fun h6 => ?_) (fun h6 => ?_) | refine z_if_eqN (pc' := 9) 4 rfl rfl (tgt := 29) rfl (by omega) (fun h6 => ?_) (fun h6 => ?_) | refine z_if_eq (pc' := 9) 4 rfl rfl (tgt := 29) rfl (fun h6 => ?_) (fun h6 => ?_)
  · refine z_iconst (v := (-1)) (by decide) (pc' := 30) 15 rfl rfl ?_
    exact z_ireturn 16 rfl rfl (by first | rfl | exact zbo_nar) rfl rfl (by show mK μ s _ _ _; rw [f_girl, if_neg (fun z0 => h6 z0.1)]; exact mK_of hst (sEq_r) hD (hk5))
  · refine z_il2 (pc' := 10) 5 rfl rfl ?_
    refine z_iconst (v := nI 0) (by decide) (pc' := 11) 6 rfl rfl ?_
    refine z_bipush (v := nI 7) (by decide) (pc' := 13) 7 rfl rfl ?_
    refine z_callS1 (pc' := 16) 8 rfl rfl k_Mo_67 (c_Mo_in _ _ _) (by decide) (Nat.le_refl _) (Nat.le_refl _) rfl rfl (Nat.le_of_ble_eq_true rfl) ?_
    first | refine z_if_eqB (pc' := 19) 9 rfl rfl (tgt := 29) rfl (fun h16 => ?_) (fun h16 => ?_) | refine z_if_eqN (pc' := 19) 9 rfl rfl (tgt := 29) rfl (by omega) (fun h16 => ?_) (fun h16 => ?_) | refine z_if_eq (pc' := 19) 9 rfl rfl (tgt := 29) rfl (fun h16 => ?_) (fun h16 => ?_)
    · refine z_iconst (v := (-1)) (by decide) (pc' := 30) 15 rfl rfl ?_
      exact z_ireturn 16 rfl rfl (by first | rfl | exact zbo_nar) rfl rfl (by show mK μ s _ _ _; rw [f_girl, if_neg (fun z0 => h16 z0.2.1)]; exact mK_of hst (sEq_r) hD (hk5))
    · refine z_il3 (pc' := 20) 10 rfl rfl ?_
      refine z_iconst (v := nI 1) (by decide) (pc' := 21) 11 rfl rfl ?_
      refine z_bipush (v := nI 9) (by decide) (pc' := 23) 12 rfl rfl ?_
      refine z_callS1 (pc' := 26) 13 rfl rfl k_Mo_67 (c_Mo_in _ _ _) (by decide) (Nat.le_refl _) (Nat.le_refl _) rfl rfl (Nat.le_of_ble_eq_true rfl) ?_
      first | refine z_if_neB (pc' := 29) 14 rfl rfl (tgt := 31) rfl (fun h26 => ?_) (fun h26 => ?_) | refine z_if_neN (pc' := 29) 14 rfl rfl (tgt := 31) rfl (by omega) (fun h26 => ?_) (fun h26 => ?_) | refine z_if_ne (pc' := 29) 14 rfl rfl (tgt := 31) rfl (fun h26 => ?_) (fun h26 => ?_)
      · obtain ⟨x1, hx1, hx2, rfl⟩ := z_wi h6 (by decide) (by decide)
        obtain ⟨y1, hy1, hy2, rfl⟩ := z_wi h16 (by decide) (by decide)
        obtain ⟨z1, hz1, hz2, rfl⟩ := z_wi h26 (by decide) (by decide)
        refine z_al0 (pc' := 32) 17 rfl rfl ?_
        refine z_getf (pc' := 35) 18 rfl rfl f_Mo_9_12 (by first | exact pm_f | exact pm_1 | (rw [pm_o (by decide)]; assumption)) (by rfl) ?_
        refine z_iconst (v := nI 3) (by decide) (pc' := 36) 19 rfl rfl ?_
        refine z_iald (pc' := 37) 20 rfl rfl (by first | exact pm_f | exact pm_1 | (rw [pm_o (by decide)]; assumption)) (by omega) (by decide) ?_
        rw [mk_3]
        refine z_is4 rfl rfl (pc' := 39) 21 rfl rfl ?_
        refine z_il4 (pc' := 41) 22 rfl rfl ?_
        refine z_bipush (v := nI 6) (by decide) (pc' := 43) 23 rfl rfl ?_
        first | refine z_icmp_neN (pc' := 46) 24 rfl rfl (tgt := 49) rfl (by omega) (by omega) (fun h43 => ?_) (fun h43 => ?_) | refine z_icmp_ne (pc' := 46) 24 rfl rfl (tgt := 49) rfl (fun h43 => ?_) (fun h43 => ?_)
        · refine z_al0 (pc' := 50) 27 rfl rfl ?_
          refine z_getf (pc' := 53) 28 rfl rfl f_Mo_9_12 (by first | exact pm_f | exact pm_1 | (rw [pm_o (by decide)]; assumption)) (by rfl) ?_
          refine z_iconst (v := nI 3) (by decide) (pc' := 54) 29 rfl rfl ?_
          refine z_dup2 rfl rfl (pc' := 55) 30 rfl rfl ?_
          refine z_iald (pc' := 56) 31 rfl rfl (by first | exact pm_f | exact pm_1 | (rw [pm_o (by decide)]; assumption)) (by omega) (by decide) ?_
          rw [mk_3]
          refine z_iconst (v := nI 1) (by decide) (pc' := 57) 32 rfl rfl ?_
          first | refine z_iaddN (pc' := 58) 33 rfl rfl ?_ | refine z_iadd (pc' := 58) 33 rfl rfl ?_
          refine z_iast (pc' := 59) 34 rfl rfl (by first | exact pm_f | exact pm_1 | (rw [pm_o (by decide)]; assumption)) (by omega) (by decide) ?_
          rw [mk_u_ng, pm_s1]
          refine z_al0 (pc' := 60) 35 rfl rfl ?_
          refine z_il4 (pc' := 62) 36 rfl rfl ?_
          refine z_iconst (v := nI 0) (by decide) (pc' := 63) 37 rfl rfl ?_
          refine z_il1 (pc' := 64) 38 rfl rfl ?_
          refine z_callV0 (pc' := 67) 39 rfl rfl k_Mo_88 (by first | exact pm_f | exact pm_1 | (rw [pm_o (by decide)]; assumption)) (c_Mo_put0 (by omega)) (by decide) (Nat.le_refl _) (Nat.le_refl _) rfl rfl (Nat.le_of_ble_eq_true rfl) ?_
          rw [un_n (show (1 : Nat) ≠ 0 by decide), un_sw (show (0 : Nat) ≠ 1 by decide)]
          refine z_al0 (pc' := 68) 40 rfl rfl ?_
          refine z_il4 (pc' := 70) 41 rfl rfl ?_
          refine z_iconst (v := nI 1) (by decide) (pc' := 71) 42 rfl rfl ?_
          refine z_il2 (pc' := 72) 43 rfl rfl ?_
          refine z_callV0 (pc' := 75) 44 rfl rfl k_Mo_88 (by first | exact pm_f | exact pm_1 | (rw [pm_o (by decide)]; assumption)) (c_Mo_put1 (by omega)) (by decide) (Nat.le_refl _) (Nat.le_refl _) rfl rfl (Nat.le_of_ble_eq_true rfl) ?_
          rw [un_n (show (2 : Nat) ≠ 0 by decide), un_n (show (2 : Nat) ≠ 1 by decide), un_sw (show (0 : Nat) ≠ 2 by decide)]
          refine z_al0 (pc' := 76) 45 rfl rfl ?_
          refine z_il4 (pc' := 78) 46 rfl rfl ?_
          refine z_iconst (v := nI 2) (by decide) (pc' := 79) 47 rfl rfl ?_
          refine z_il3 (pc' := 80) 48 rfl rfl ?_
          refine z_callV0 (pc' := 83) 49 rfl rfl k_Mo_88 (by first | exact pm_f | exact pm_1 | (rw [pm_o (by decide)]; assumption)) (c_Mo_put2 (by omega)) (by decide) (Nat.le_refl _) (Nat.le_refl _) rfl rfl (Nat.le_of_ble_eq_true rfl) ?_
          rw [un_n (show (3 : Nat) ≠ 0 by decide), un_n (show (3 : Nat) ≠ 2 by decide), un_n (show (3 : Nat) ≠ 1 by decide), un_sw (show (0 : Nat) ≠ 3 by decide)]
          refine z_al0 (pc' := 84) 50 rfl rfl ?_
          refine z_il4 (pc' := 86) 51 rfl rfl ?_
          refine z_iconst (v := nI 3) (by decide) (pc' := 87) 52 rfl rfl ?_
          refine z_iconst (v := (-1)) (by decide) (pc' := 88) 53 rfl rfl ?_
          refine z_callV0 (pc' := 91) 54 rfl rfl k_Mo_88 (by first | exact pm_f | exact pm_1 | (rw [pm_o (by decide)]; assumption)) (c_Mo_put3 (x := 6) (by omega)) (by decide) (Nat.le_refl _) (Nat.le_refl _) rfl rfl (Nat.le_of_ble_eq_true rfl) ?_
          refine z_al0 (pc' := 92) 55 rfl rfl ?_
          refine z_il4 (pc' := 94) 56 rfl rfl ?_
          refine z_iconst (v := nI 4) (by decide) (pc' := 95) 57 rfl rfl ?_
          refine z_il3 (pc' := 96) 58 rfl rfl ?_
          refine z_callV0 (pc' := 99) 59 rfl rfl k_Mo_88 (by first | exact pm_f | exact pm_1 | (rw [pm_o (by decide)]; assumption)) (c_Mo_put4 (by omega)) (by decide) (Nat.le_refl _) (Nat.le_refl _) rfl rfl (Nat.le_of_ble_eq_true rfl) ?_
          refine z_il4 (pc' := 101) 60 rfl rfl ?_
          exact z_ireturn 61 rfl rfl (by first | rfl | exact zbo_nar) rfl rfl (by show mK μ s _ _ _; rw [f_girl, if_pos ⟨h6, h16, h26⟩, if_neg h43, tN_n (by omega), tN_n (by omega), tN_n (by omega)]; exact mK_of hst (sEq_r) hD (⟨gS'_ok hi (by omega) hx2 hy2 hz2 hz1, gX'_ok hx hz2 hz1, hmo, hrc⟩))
        · refine z_bipush (v := (-2)) (by decide) (pc' := 48) 25 rfl rfl ?_
          exact z_ireturn 26 rfl rfl (by first | rfl | exact zbo_nar) rfl rfl (by show mK μ s _ _ _; rw [f_girl, if_pos ⟨h6, h16, h26⟩, if_pos h43]; exact mK_of hst (sEq_r) hD (hk5))
      · refine z_iconst (v := (-1)) (by decide) (pc' := 30) 15 rfl rfl ?_
        exact z_ireturn 16 rfl rfl (by first | rfl | exact zbo_nar) rfl rfl (by show mK μ s _ _ _; rw [f_girl, if_neg (fun z0 => h26 z0.2.2)]; exact mK_of hst (sEq_r) hD (hk5))
