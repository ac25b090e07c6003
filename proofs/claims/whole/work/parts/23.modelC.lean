set_option maxHeartbeats 4000000 in
set_option maxRecDepth 100000 in
theorem c_Mo_isHolding {G : zG} {n u : Nat} {ν : Nat → va_E} {s : Nat → Int32} {S : Nat → Nat → Nat} {mo : Nat} {pr fa : Nat → Nat} {sc ch : Int32} {rc : Nat} {ρ : Nat → Int32} {q : Nat → Int32} (hi : iS S) {g rl b e : Nat} {its : zI} (hg : g < 6) (hm : mo ≤ 16) (hf9 : fa g ≤ 9) (he : e ≤ 500) (hr : 86 ≤ rl) (hr2 : rl < 118) (hb : ρ (rl + 2) = nI b) (hee : ρ (rl + 3) = nI e) (hs : sgM ρ b its e) (hok : okI its 0) (hd : its = [] ∨ dpI its 0 = 1) :
    zMet G 2 M_Mo_isHolding [.ref 88, .int (nI g), .int (nI rl)] n u (pm (zu ν 93 (.inl (1, 100, .inl q))) s (mk S mo pr fa sc ch rc ρ)) n u (zS (some (.int (zbo (tpB (evB (fct mo (fa g) (S 3 g) (S 2 g) g) its []) = true)))) (fun q9 : Nat → Int32 => pm (zu ν 93 (.inl (1, 100, .inl q9))) s (mk S mo pr fa sc ch rc ρ))) := by
  refine z_start (lv := [.ref 88, .int (nI g), .int (nI rl), .retAddr 0, .retAddr 0, .retAddr 0, .retAddr 0, .retAddr 0]) K_Mo_isHolding rfl rfl (Nat.le_refl _) (Nat.le_refl _) (Nat.le_of_ble_eq_true rfl) rfl ?_
  have hle := sgM_le _ _ _ hs
  refine z_iconst (v := nI 0) (by decide) (pc' := 1) 0 rfl rfl ?_
  refine z_is3 rfl rfl (pc' := 2) 1 rfl rfl ?_
  refine z_bipush (v := nI 118) (by decide) (pc' := 4) 2 rfl rfl ?_
  refine z_al0 (pc' := 5) 3 rfl rfl ?_
  refine z_getf (pc' := 8) 4 rfl rfl f_Mo_9_12 (by first | exact pm_f | exact pm_1 | (rw [pm_o (by decide)]; exact zu_s)) (by rfl) ?_
  refine z_il2 (pc' := 9) 5 rfl rfl ?_
  refine z_iconst (v := nI 2) (by decide) (pc' := 10) 6 rfl rfl ?_
  first | refine z_iaddN (pc' := 11) 7 rfl rfl ?_ | refine z_iadd (pc' := 11) 7 rfl rfl ?_
  refine z_iald (pc' := 12) 8 rfl rfl (by first | exact pm_f | exact pm_1 | (rw [pm_o (by decide)]; exact zu_s)) (by omega) (by decide) ?_
  rw [mk_s (by omega), hb]
  first | refine z_iaddN (pc' := 13) 9 rfl rfl ?_ | refine z_iadd (pc' := 13) 9 rfl rfl ?_
  refine z_is4 rfl rfl (pc' := 15) 10 rfl rfl ?_
  refine z_bipush (v := nI 118) (by decide) (pc' := 17) 11 rfl rfl ?_
  refine z_al0 (pc' := 18) 12 rfl rfl ?_
  refine z_getf (pc' := 21) 13 rfl rfl f_Mo_9_12 (by first | exact pm_f | exact pm_1 | (rw [pm_o (by decide)]; exact zu_s)) (by rfl) ?_
  refine z_il2 (pc' := 22) 14 rfl rfl ?_
  refine z_iconst (v := nI 3) (by decide) (pc' := 23) 15 rfl rfl ?_
  first | refine z_iaddN (pc' := 24) 16 rfl rfl ?_ | refine z_iadd (pc' := 24) 16 rfl rfl ?_
  refine z_iald (pc' := 25) 17 rfl rfl (by first | exact pm_f | exact pm_1 | (rw [pm_o (by decide)]; exact zu_s)) (by omega) (by decide) ?_
  rw [mk_s (by omega), hee]
  first | refine z_iaddN (pc' := 26) 18 rfl rfl ?_ | refine z_iadd (pc' := 26) 18 rfl rfl ?_
  refine z_is5 rfl rfl (pc' := 28) 19 rfl rfl ?_
  refine z_il4 (pc' := 30) 20 rfl rfl ?_
  refine z_il5 (pc' := 32) 21 rfl rfl ?_
  first | refine z_icmp_neN (pc' := 35) 22 rfl rfl (tgt := 39) rfl (by omega) (by omega) (fun h32 => ?_) (fun h32 => ?_) | refine z_icmp_ne (pc' := 35) 22 rfl rfl (tgt := 39) rfl (fun h32 => ?_) (fun h32 => ?_)
  · refine z_iconst (v := nI 0) (by decide) (pc' := 40) 25 rfl rfl ?_
    refine z_is6 rfl rfl (pc' := 42) 26 rfl rfl ?_
    have hne : ¬ its = [] := by intro h0; subst h0; have : b = e := hs; omega
    exact l_Mo_isHolding hi hg hm hf9 he its b [] q hs hok (hd.resolve_left hne) trivial (by decide)
  · refine z_iconst (v := nI 1) (by decide) (pc' := 36) 23 rfl rfl ?_
    refine z_goto 24 rfl (tgt := 40) rfl ?_
    refine z_is6 rfl rfl (pc' := 42) 26 rfl rfl ?_
    have h0 : its = [] := by
      match its, hs with
      | [], _ => rfl
      | (o, l, r) :: t, hs =>
        exfalso
        unfold sgM at hs
        split at hs
        · have := sgM_le _ _ _ hs.2; omega
        · split at hs
          · have := sgM_le _ _ _ hs.2; omega
          · split at hs
            · have := sgM_le _ _ _ hs.2; omega
            · have := sgM_le _ _ _ hs.2.2.2; omega
    subst h0
    refine z_il4 (pc' := 44) 27 rfl rfl ?_
    refine z_il5 (pc' := 46) 28 rfl rfl ?_
    first | refine z_icmp_geN (pc' := 49) 29 rfl rfl (tgt := 234) rfl (by omega) (by omega) (fun h46 => ?_) (fun h46 => ?_) | refine z_icmp_ge (pc' := 49) 29 rfl rfl (tgt := 234) rfl (fun h46 => ?_) (fun h46 => ?_)
    · refine z_il6 (pc' := 236) 132 rfl rfl ?_
      refine z_if_ne_t 133 rfl (tgt := 248) rfl (by decide) ?_
      refine z_iconst (v := nI 1) (by decide) (pc' := 249) 139 rfl rfl ?_
      refine z_goto 140 rfl (tgt := 253) rfl ?_
      exact z_ireturn 142 rfl rfl (by first | rfl | exact zbo_nar) rfl rfl (by exact ⟨rfl, q, rfl⟩)
    · exfalso; omega
/-- the reference's rules are as they must be: β 1 kinds, 2 deeds, 3 begins, 5 ends -/
def wfM (ρ : Nat → Int32) (rc : Nat) (β : Nat → Nat → Nat) (its : Nat → zI) : Prop := β 0 0 = rc ∧ rc ≤ 8 ∧ ∀ r, r < rc → ρ (86 + 4 * r) = nI (β 1 r) ∧ ρ (86 + 4 * r + 1) = nI (β 2 r) ∧ ρ (86 + 4 * r + 2) = nI (β 3 r) ∧ ρ (86 + 4 * r + 3) = nI (β 5 r) ∧ sgM ρ (β 3 r) (its r) (β 5 r) ∧ β 5 r ≤ 500 ∧ okI (its r) 0 ∧ (its r = [] ∨ dpI (its r) 0 = 1) ∧ β 1 r ≤ 5 ∧ β 2 r ≤ 2
def dzM (ρ : Nat → Int32) (rc : Nat) (D : Nat → Nat → Nat → Nat → Nat → Nat → Nat) : Prop := ∃ (β : Nat → Nat → Nat) (its : Nat → zI), wfM ρ rc β its ∧ (∀ k mo f dw h g, tlN β its k (fct mo f dw h g) rc 0 = D k mo f dw h g) ∧ ∀ k mo f dw h g, D k mo f dw h g ≤ 2
theorem npr_br (pr : Nat → Nat) (w : Nat) : ∀ k, (brN pr w k = 0 ↔ npr pr w k = true)
  | 0 => by simp [brN, npr]
  | k + 1 => by
    have ih := npr_br pr w k
    unfold brN npr
    by_cases h : pr k = w
    · rw [if_pos h]
      have h2 : 0 < 2 ^ k := Nat.two_pow_pos k
      constructor
      · intro e
        have := Nat.or_eq_zero_iff.mp e
        omega
      · intro e
        simp [h] at e
    · rw [if_neg h, ih]
      simp [h]
set_option maxHeartbeats 4000000 in
set_option maxRecDepth 100000 in
theorem l_Mo_does {G : zG} {n u : Nat} {ν : Nat → va_E} {s : Nat → Int32} {S : Nat → Nat → Nat} {mo : Nat} {pr fa : Nat → Nat} {sc ch : Int32} {rc : Nat} {ρ : Nat → Int32} (hi : iS S) {β : Nat → Nat → Nat} {its : Nat → zI} (hw : wfM ρ rc β its) {g : Nat} (hg : g < 6) (hm : mo ≤ 16) (hf9 : fa g ≤ 9) : ∀ m r (q : Nat → Int32), r + m = rc →
    zW G 3 M_Mo_does 2 [.ref 88, .int (nI g), .int (nI r), .retAddr 0] [] n u (pm (zu ν 93 (.inl (1, 100, .inl q))) s (mk S mo pr fa sc ch rc ρ)) n u (zS (some (.int (nI (tlN β its (S 1 g) (fct mo (fa g) (S 3 g) (S 2 g) g) m r)))) (fun q9 : Nat → Int32 => pm (zu ν 93 (.inl (1, 100, .inl q9))) s (mk S mo pr fa sc ch rc ρ)))
  | 0, r, q, e => by
    have hr8 := hw.2.1
    refine z_il2 (pc' := 3) 2 rfl rfl ?_
    refine z_al0 (pc' := 4) 3 rfl rfl ?_
    refine z_getf (pc' := 7) 4 rfl rfl f_Mo_9_12 (by first | exact pm_f | exact pm_1 | (rw [pm_o (by decide)]; exact zu_s)) (by rfl) ?_
    refine z_bipush (v := nI 7) (by decide) (pc' := 9) 5 rfl rfl ?_
    refine z_iald (pc' := 10) 6 rfl rfl (by first | exact pm_f | exact pm_1 | (rw [pm_o (by decide)]; exact zu_s)) (by omega) (by decide) ?_
    rw [mk_7]
    first | refine z_icmp_geN (pc' := 13) 7 rfl rfl (tgt := 62) rfl (by omega) (by omega) (fun h10 => ?_) (fun h10 => ?_) | refine z_icmp_ge (pc' := 13) 7 rfl rfl (tgt := 62) rfl (fun h10 => ?_) (fun h10 => ?_)
    · refine z_iconst (v := nI 0) (by decide) (pc' := 63) 38 rfl rfl ?_
      exact z_ireturn 39 rfl rfl (by first | rfl | exact zbo_nar) rfl rfl (by exact ⟨rfl, q, rfl⟩)
    · exfalso; omega
  | m + 1, r, q, e => by
    have hr8 := hw.2.1
    have hs9 := hi.2.2.2.2.2 g
    obtain ⟨w1, w2, w3, w4, w5, w6, w7, w8, w9, w10⟩ := hw.2.2 r (by omega)
    refine z_il2 (pc' := 3) 2 rfl rfl ?_
    refine z_al0 (pc' := 4) 3 rfl rfl ?_
    refine z_getf (pc' := 7) 4 rfl rfl f_Mo_9_12 (by first | exact pm_f | exact pm_1 | (rw [pm_o (by decide)]; exact zu_s)) (by rfl) ?_
    refine z_bipush (v := nI 7) (by decide) (pc' := 9) 5 rfl rfl ?_
    refine z_iald (pc' := 10) 6 rfl rfl (by first | exact pm_f | exact pm_1 | (rw [pm_o (by decide)]; exact zu_s)) (by omega) (by decide) ?_
    rw [mk_7]
    first | refine z_icmp_geN (pc' := 13) 7 rfl rfl (tgt := 62) rfl (by omega) (by omega) (fun h10 => ?_) (fun h10 => ?_) | refine z_icmp_ge (pc' := 13) 7 rfl rfl (tgt := 62) rfl (fun h10 => ?_) (fun h10 => ?_)
    · exfalso; omega
    · refine z_bipush (v := nI 86) (by decide) (pc' := 15) 8 rfl rfl ?_
      refine z_iconst (v := nI 4) (by decide) (pc' := 16) 9 rfl rfl ?_
      refine z_il2 (pc' := 17) 10 rfl rfl ?_
      first | refine z_imulN (pc' := 18) 11 rfl rfl ?_ | refine z_imul (pc' := 18) 11 rfl rfl ?_
      first | refine z_iaddN (pc' := 19) 12 rfl rfl ?_ | refine z_iadd (pc' := 19) 12 rfl rfl ?_
      refine z_is3 rfl rfl (pc' := 20) 13 rfl rfl ?_
      refine z_al0 (pc' := 21) 14 rfl rfl ?_
      refine z_il1 (pc' := 22) 15 rfl rfl ?_
      refine z_iconst (v := nI 0) (by decide) (pc' := 23) 16 rfl rfl ?_
      refine z_callV1 (pc' := 26) 17 rfl rfl k_Mo_75 (by first | exact pm_f | exact pm_1 | (rw [pm_o (by decide)]; exact zu_s)) (c_Mo_of0 hg) (by decide) (Nat.le_refl _) (Nat.le_refl _) rfl rfl (Nat.le_of_ble_eq_true rfl) ?_
      refine z_al0 (pc' := 27) 18 rfl rfl ?_
      refine z_getf (pc' := 30) 19 rfl rfl f_Mo_9_12 (by first | exact pm_f | exact pm_1 | (rw [pm_o (by decide)]; exact zu_s)) (by rfl) ?_
      refine z_il3 (pc' := 31) 20 rfl rfl ?_
      refine z_iald (pc' := 32) 21 rfl rfl (by first | exact pm_f | exact pm_1 | (rw [pm_o (by decide)]; exact zu_s)) (by omega) (by decide) ?_
      rw [mk_s (by omega), w1]
      refine z_callS1 (pc' := 35) 22 rfl rfl k_Mo_209 (c_Mo_isUnder (by omega) (by omega)) (by decide) (Nat.le_refl _) (Nat.le_refl _) rfl rfl (Nat.le_of_ble_eq_true rfl) ?_
      first | refine z_if_eqB (pc' := 38) 23 rfl rfl (tgt := 56) rfl (fun h35 => ?_) (fun h35 => ?_) | refine z_if_eqN (pc' := 38) 23 rfl rfl (tgt := 56) rfl (by omega) (fun h35 => ?_) (fun h35 => ?_) | refine z_if_eq (pc' := 38) 23 rfl rfl (tgt := 56) rfl (fun h35 => ?_) (fun h35 => ?_)
      · rw [tlN, if_neg (fun z => h35 z.1)]
        first | refine z_inc2N rfl rfl (pc' := 59) 36 rfl rfl ?_ | refine z_inc2 rfl rfl rfl (pc' := 59) 36 rfl rfl ?_
        refine z_goto 37 rfl (tgt := 2) rfl ?_
        refine z_less3 ?_
        exact l_Mo_does hi hw hg hm hf9 m (r + 1) _ (by omega)
      · refine z_al0 (pc' := 39) 24 rfl rfl ?_
        refine z_il1 (pc' := 40) 25 rfl rfl ?_
        refine z_il3 (pc' := 41) 26 rfl rfl ?_
        refine z_callVX1 (pc' := 44) 27 rfl rfl k_Mo_212 (by first | exact pm_f | exact pm_1 | (rw [pm_o (by decide)]; exact zu_s)) (c_Mo_isHolding hi hg hm hf9 w6 (by omega) (by omega) w3 w4 w5 w7 w8) (by decide) (Nat.le_refl _) (Nat.le_refl _) rfl rfl (Nat.le_of_ble_eq_true rfl) (fun q41 => ?_)
        first | refine z_if_eqB (pc' := 47) 28 rfl rfl (tgt := 56) rfl (fun h44 => ?_) (fun h44 => ?_) | refine z_if_eqN (pc' := 47) 28 rfl rfl (tgt := 56) rfl (by omega) (fun h44 => ?_) (fun h44 => ?_) | refine z_if_eq (pc' := 47) 28 rfl rfl (tgt := 56) rfl (fun h44 => ?_) (fun h44 => ?_)
        · rw [tlN, if_neg (fun z => h44 z.2)]
          first | refine z_inc2N rfl rfl (pc' := 59) 36 rfl rfl ?_ | refine z_inc2 rfl rfl rfl (pc' := 59) 36 rfl rfl ?_
          refine z_goto 37 rfl (tgt := 2) rfl ?_
          refine z_less3 ?_
          exact l_Mo_does hi hw hg hm hf9 m (r + 1) _ (by omega)
        · refine z_al0 (pc' := 48) 29 rfl rfl ?_
          refine z_getf (pc' := 51) 30 rfl rfl f_Mo_9_12 (by first | exact pm_f | exact pm_1 | (rw [pm_o (by decide)]; exact zu_s)) (by rfl) ?_
          refine z_il3 (pc' := 52) 31 rfl rfl ?_
          refine z_iconst (v := nI 1) (by decide) (pc' := 53) 32 rfl rfl ?_
          first | refine z_iaddN (pc' := 54) 33 rfl rfl ?_ | refine z_iadd (pc' := 54) 33 rfl rfl ?_
          refine z_iald (pc' := 55) 34 rfl rfl (by first | exact pm_f | exact pm_1 | (rw [pm_o (by decide)]; exact zu_s)) (by omega) (by decide) ?_
          rw [mk_s (by omega), w2]
          exact z_ireturn 35 rfl rfl (by first | rfl | exact zbo_nar) rfl rfl (by rw [tlN, if_pos ⟨h35, h44⟩]; exact ⟨rfl, q41, rfl⟩)
set_option maxHeartbeats 4000000 in
set_option maxRecDepth 100000 in
theorem c_Mo_does {G : zG} {n u : Nat} {ν : Nat → va_E} {s : Nat → Int32} {S : Nat → Nat → Nat} {mo : Nat} {pr fa : Nat → Nat} {sc ch : Int32} {rc : Nat} {ρ : Nat → Int32} {q : Nat → Int32} (hi : iS S) {D : Nat → Nat → Nat → Nat → Nat → Nat → Nat} (hD : dzM ρ rc D) {g : Nat} (hg : g < 6) (hm : mo ≤ 16) (hf9 : fa g ≤ 9) :
    zMet G 3 M_Mo_does [.ref 88, .int (nI g)] n u (pm (zu ν 93 (.inl (1, 100, .inl q))) s (mk S mo pr fa sc ch rc ρ)) n u (zS (some (.int (nI (D (S 1 g) mo (fa g) (S 3 g) (S 2 g) g)))) (fun q9 : Nat → Int32 => pm (zu ν 93 (.inl (1, 100, .inl q9))) s (mk S mo pr fa sc ch rc ρ))) := by
  obtain ⟨β, its, hw, hD2, -⟩ := hD
  rw [← hD2]
  refine z_start (lv := [.ref 88, .int (nI g), .retAddr 0, .retAddr 0]) K_Mo_does rfl rfl (Nat.le_refl _) (Nat.le_refl _) (Nat.le_of_ble_eq_true rfl) rfl ?_
  refine z_iconst (v := nI 0) (by decide) (pc' := 1) 0 rfl rfl ?_
  refine z_is2 rfl rfl (pc' := 2) 1 rfl rfl ?_
  exact l_Mo_does hi hw hg hm hf9 rc 0 q (by omega)
set_option maxHeartbeats 4000000 in
set_option maxRecDepth 100000 in
theorem l_Mo_turns {G : zG} {n u : Nat} {ν : Nat → va_E} {s : Nat → Int32} {S : Nat → Nat → Nat} {mo : Nat} {pr fa : Nat → Nat} {sc ch : Int32} {rc : Nat} {ρ : Nat → Int32} (hi : iS S) {g : Nat} (hg : g < 6) (hm : mo ≤ 16) (hx : iX S pr fa) : ∀ j k (y : Int32), k + j = S 0 1 → y = hasI (fwN S mo g pr k) →
    zW G 3 M_Mo_turns 4 [.ref 88, .int (nI g), .int y, .int (nI k), .retAddr 0] [] n u (pm ν s (mk S mo pr fa sc ch rc ρ)) n u (zE none (pm ν s (mk S mo (if fw S mo g pr = 6 then pr else un pr g (fw S mo g pr)) (if fw S mo g pr = 6 then fa else un fa g (S 3 g)) sc ch rc ρ)))
  | 0, k, y, e, ey => by
    subst ey
    have hi1 := hi.2.1
    have hi0 := hi.1
    have hgk : gS S g k mo ≤ 18 := gS_le hi
    have hgb : gS S g (fwN S mo g pr k) mo ≤ 18 := gS_le hi
    have hfl := fwN_le S mo g pr k (by omega)
    have hbr : brN pr k (S 0 0) < 64 := brN_lt pr k (S 0 0) hi.1
    obtain rfl : k = S 0 1 := by omega
    have e0 : fwN S mo g pr (S 0 1) = fw S mo g pr := rfl
    rw [e0] at hfl ⊢
    refine z_il3 (pc' := 5) 4 rfl rfl ?_
    refine z_al0 (pc' := 6) 5 rfl rfl ?_
    refine z_getf (pc' := 9) 6 rfl rfl f_Mo_9_12 (by first | exact pm_f | exact pm_1) (by rfl) ?_
    refine z_iconst (v := nI 2) (by decide) (pc' := 10) 7 rfl rfl ?_
    refine z_iald (pc' := 11) 8 rfl rfl (by first | exact pm_f | exact pm_1) (by omega) (by decide) ?_
    rw [mk_2]
    first | refine z_icmp_geN (pc' := 14) 9 rfl rfl (tgt := 87) rfl (by omega) (by omega) (fun h11 => ?_) (fun h11 => ?_) | refine z_icmp_ge (pc' := 14) 9 rfl rfl (tgt := 87) rfl (fun h11 => ?_) (fun h11 => ?_)
    · refine z_il2 (pc' := 88) 51 rfl rfl ?_
      first | refine z_if_ltH (pc' := 91) 52 rfl rfl (tgt := 97) rfl (by omega) (fun h88 => ?_) (fun h88 => ?_) | refine z_if_ltN (pc' := 91) 52 rfl rfl (tgt := 97) rfl (by omega) (fun h88 => ?_) (fun h88 => ?_) | refine z_if_lt (pc' := 91) 52 rfl rfl (tgt := 97) rfl (fun h88 => ?_) (fun h88 => ?_)
      · exact z_return 57 rfl rfl rfl rfl (by refine ⟨rfl, ?_⟩; rw [if_pos h88, if_pos h88])
      · refine z_al0 (pc' := 92) 53 rfl rfl ?_
        refine z_il1 (pc' := 93) 54 rfl rfl ?_
        refine z_il2 (pc' := 94) 55 rfl rfl ?_
        refine z_callV0 (pc' := 97) 56 rfl rfl k_Mo_116 (by first | exact pm_f | exact pm_1) (c_Mo_gets hg) (by decide) (Nat.le_refl _) (Nat.le_refl _) rfl rfl (Nat.le_of_ble_eq_true rfl) ?_
        exact z_return 57 rfl rfl rfl rfl (by refine ⟨rfl, ?_⟩; rw [if_neg h88, if_neg h88])
    · exfalso; omega
  | j + 1, k, y, e, ey => by
    subst ey
    have hi0 := hi.1
    have hi1 := hi.2.1
    have hgk : gS S g k mo ≤ 18 := gS_le hi
    have hgb : gS S g (fwN S mo g pr k) mo ≤ 18 := gS_le hi
    have hfl := fwN_le S mo g pr k (by omega)
    have hbr : brN pr k (S 0 0) < 64 := brN_lt pr k (S 0 0) hi.1
    refine z_il3 (pc' := 5) 4 rfl rfl ?_
    refine z_al0 (pc' := 6) 5 rfl rfl ?_
    refine z_getf (pc' := 9) 6 rfl rfl f_Mo_9_12 (by first | exact pm_f | exact pm_1) (by rfl) ?_
    refine z_iconst (v := nI 2) (by decide) (pc' := 10) 7 rfl rfl ?_
    refine z_iald (pc' := 11) 8 rfl rfl (by first | exact pm_f | exact pm_1) (by omega) (by decide) ?_
    rw [mk_2]
    first | refine z_icmp_geN (pc' := 14) 9 rfl rfl (tgt := 87) rfl (by omega) (by omega) (fun h11 => ?_) (fun h11 => ?_) | refine z_icmp_ge (pc' := 14) 9 rfl rfl (tgt := 87) rfl (fun h11 => ?_) (fun h11 => ?_)
    · exfalso; omega
    · refine z_al0 (pc' := 15) 10 rfl rfl ?_
      refine z_il3 (pc' := 16) 11 rfl rfl ?_
      refine z_al0 (pc' := 17) 12 rfl rfl ?_
      refine z_getf (pc' := 20) 13 rfl rfl f_Mo_9_12 (by first | exact pm_f | exact pm_1) (by rfl) ?_
      refine z_iconst (v := nI 1) (by decide) (pc' := 21) 14 rfl rfl ?_
      refine z_iald (pc' := 22) 15 rfl rfl (by first | exact pm_f | exact pm_1) (by omega) (by decide) ?_
      rw [mk_1]
      refine z_callV1 (pc' := 25) 16 rfl rfl k_Mo_112 (by first | exact pm_f | exact pm_1) (c_Mo_blows hi (by omega) (by omega)) (by decide) (Nat.le_refl _) (Nat.le_refl _) rfl rfl (Nat.le_of_ble_eq_true rfl) ?_
      first | refine z_if_eqB (pc' := 28) 17 rfl rfl (tgt := 40) rfl (fun h25 => ?_) (fun h25 => ?_) | refine z_if_eqN (pc' := 28) 17 rfl rfl (tgt := 40) rfl (by omega) (fun h25 => ?_) (fun h25 => ?_) | refine z_if_eq (pc' := 28) 17 rfl rfl (tgt := 40) rfl (fun h25 => ?_) (fun h25 => ?_)
      · refine z_iconst (v := nI 0) (by decide) (pc' := 41) 24 rfl rfl ?_
        refine z_is4 rfl rfl (pc' := 43) 25 rfl rfl ?_
        refine z_il4 (pc' := 45) 26 rfl rfl ?_
        refine z_if_eq_t 27 rfl (tgt := 81) rfl rfl ?_
        first | refine z_inc3N rfl rfl (pc' := 84) 49 rfl rfl ?_ | refine z_inc3 rfl rfl rfl (pc' := 84) 49 rfl rfl ?_
        refine z_goto 50 rfl (tgt := 4) rfl ?_
        refine z_less4 ?_
        exact l_Mo_turns hi hg hm hx j (k + 1) _ (by omega) (by rw [fwN, if_neg (fun z => h25 z.1)])
      · refine z_al0 (pc' := 29) 18 rfl rfl ?_
        refine z_il3 (pc' := 30) 19 rfl rfl ?_
        refine z_callV1 (pc' := 33) 20 rfl rfl k_Mo_109 (by first | exact pm_f | exact pm_1) (c_Mo_promisedTo hi (by omega) (fun j => (hx j).1)) (by decide) (Nat.le_refl _) (Nat.le_refl _) rfl rfl (Nat.le_of_ble_eq_true rfl) ?_
        first | refine z_if_neB (pc' := 36) 21 rfl rfl (tgt := 40) rfl (fun h33 => ?_) (fun h33 => ?_) | refine z_if_neN (pc' := 36) 21 rfl rfl (tgt := 40) rfl (by omega) (fun h33 => ?_) (fun h33 => ?_) | refine z_if_ne (pc' := 36) 21 rfl rfl (tgt := 40) rfl (fun h33 => ?_) (fun h33 => ?_)
        · refine z_iconst (v := nI 0) (by decide) (pc' := 41) 24 rfl rfl ?_
          refine z_is4 rfl rfl (pc' := 43) 25 rfl rfl ?_
          refine z_il4 (pc' := 45) 26 rfl rfl ?_
          refine z_if_eq_t 27 rfl (tgt := 81) rfl rfl ?_
          first | refine z_inc3N rfl rfl (pc' := 84) 49 rfl rfl ?_ | refine z_inc3 rfl rfl rfl (pc' := 84) 49 rfl rfl ?_
          refine z_goto 50 rfl (tgt := 4) rfl ?_
          refine z_less4 ?_
          exact l_Mo_turns hi hg hm hx j (k + 1) _ (by omega) (by rw [fwN, if_neg (fun z => h33 ((npr_br pr k _).mpr z.2.1))])
        · refine z_iconst (v := nI 1) (by decide) (pc' := 37) 22 rfl rfl ?_
          refine z_goto 23 rfl (tgt := 41) rfl ?_
          refine z_is4 rfl rfl (pc' := 43) 25 rfl rfl ?_
          refine z_il4 (pc' := 45) 26 rfl rfl ?_
          refine z_if_eq_f (pc' := 48) 27 rfl rfl (tgt := 81) rfl (by decide) ?_
          refine z_il2 (pc' := 49) 28 rfl rfl ?_
          first | refine z_if_ltH (pc' := 52) 29 rfl rfl (tgt := 79) rfl (by omega) (fun h49 => ?_) (fun h49 => ?_) | refine z_if_ltN (pc' := 52) 29 rfl rfl (tgt := 79) rfl (by omega) (fun h49 => ?_) (fun h49 => ?_) | refine z_if_lt (pc' := 52) 29 rfl rfl (tgt := 79) rfl (fun h49 => ?_) (fun h49 => ?_)
          · refine z_il3 (pc' := 80) 47 rfl rfl ?_
            refine z_is2 rfl rfl (pc' := 81) 48 rfl rfl ?_
            first | refine z_inc3N rfl rfl (pc' := 84) 49 rfl rfl ?_ | refine z_inc3 rfl rfl rfl (pc' := 84) 49 rfl rfl ?_
            refine z_goto 50 rfl (tgt := 4) rfl ?_
            refine z_less4 ?_
            exact l_Mo_turns hi hg hm hx j (k + 1) _ (by omega) (by rw [fwN, if_pos ⟨h25, (npr_br pr k _).mp h33, Or.inl h49⟩, hasI_n (by omega)])
          · refine z_al0 (pc' := 53) 30 rfl rfl ?_
            refine z_il1 (pc' := 54) 31 rfl rfl ?_
            refine z_il3 (pc' := 55) 32 rfl rfl ?_
            refine z_al0 (pc' := 56) 33 rfl rfl ?_
            refine z_getf (pc' := 59) 34 rfl rfl f_Mo_9_12 (by first | exact pm_f | exact pm_1) (by rfl) ?_
            refine z_iconst (v := nI 1) (by decide) (pc' := 60) 35 rfl rfl ?_
            refine z_iald (pc' := 61) 36 rfl rfl (by first | exact pm_f | exact pm_1) (by omega) (by decide) ?_
            rw [mk_1]
            refine z_callV1 (pc' := 64) 37 rfl rfl k_Mo_120 (by first | exact pm_f | exact pm_1) (c_Mo_gainOf hi hg (by omega) hm) (by decide) (Nat.le_refl _) (Nat.le_refl _) rfl rfl (Nat.le_of_ble_eq_true rfl) ?_
            refine z_al0 (pc' := 65) 38 rfl rfl ?_
            refine z_il1 (pc' := 66) 39 rfl rfl ?_
            refine z_il2 (pc' := 67) 40 rfl rfl ?_
            rw [hasI_n h49]
            refine z_al0 (pc' := 68) 41 rfl rfl ?_
            refine z_getf (pc' := 71) 42 rfl rfl f_Mo_9_12 (by first | exact pm_f | exact pm_1) (by rfl) ?_
            refine z_iconst (v := nI 1) (by decide) (pc' := 72) 43 rfl rfl ?_
            refine z_iald (pc' := 73) 44 rfl rfl (by first | exact pm_f | exact pm_1) (by omega) (by decide) ?_
            rw [mk_1]
            refine z_callV1 (pc' := 76) 45 rfl rfl k_Mo_120 (by first | exact pm_f | exact pm_1) (c_Mo_gainOf hi hg (by omega) hm) (by decide) (Nat.le_refl _) (Nat.le_refl _) rfl rfl (Nat.le_of_ble_eq_true rfl) ?_
            first | refine z_icmp_leN (pc' := 79) 46 rfl rfl (tgt := 81) rfl (by omega) (by omega) (fun h76 => ?_) (fun h76 => ?_) | refine z_icmp_le (pc' := 79) 46 rfl rfl (tgt := 81) rfl (fun h76 => ?_) (fun h76 => ?_)
            · first | refine z_inc3N rfl rfl (pc' := 84) 49 rfl rfl ?_ | refine z_inc3 rfl rfl rfl (pc' := 84) 49 rfl rfl ?_
              refine z_goto 50 rfl (tgt := 4) rfl ?_
              refine z_less4 ?_
              exact l_Mo_turns hi hg hm hx j (k + 1) _ (by omega) (by rw [fwN, if_neg (fun z => z.2.2.elim h49 (Nat.not_lt.mpr h76)), hasI_n h49])
            · refine z_il3 (pc' := 80) 47 rfl rfl ?_
              refine z_is2 rfl rfl (pc' := 81) 48 rfl rfl ?_
              first | refine z_inc3N rfl rfl (pc' := 84) 49 rfl rfl ?_ | refine z_inc3 rfl rfl rfl (pc' := 84) 49 rfl rfl ?_
              refine z_goto 50 rfl (tgt := 4) rfl ?_
              refine z_less4 ?_
              exact l_Mo_turns hi hg hm hx j (k + 1) _ (by omega) (by rw [fwN, if_pos ⟨h25, (npr_br pr k _).mp h33, Or.inr h76⟩, hasI_n (by omega)])
set_option maxHeartbeats 4000000 in
set_option maxRecDepth 100000 in
theorem c_Mo_turns {G : zG} {n u : Nat} {ν : Nat → va_E} {s : Nat → Int32} {S : Nat → Nat → Nat} {mo : Nat} {pr fa : Nat → Nat} {sc ch : Int32} {rc : Nat} {ρ : Nat → Int32} (hi : iS S) {g : Nat} (hg : g < 6) (hm : mo ≤ 16) (hx : iX S pr fa) :
    zMet G 3 M_Mo_turns [.ref 88, .int (nI g)] n u (pm ν s (mk S mo pr fa sc ch rc ρ)) n u (zE none (pm ν s (mk S mo (if fw S mo g pr = 6 then pr else un pr g (fw S mo g pr)) (if fw S mo g pr = 6 then fa else un fa g (S 3 g)) sc ch rc ρ))) := by
  refine z_start (lv := [.ref 88, .int (nI g), .retAddr 0, .retAddr 0, .retAddr 0]) K_Mo_turns rfl rfl (Nat.le_refl _) (Nat.le_refl _) (Nat.le_of_ble_eq_true rfl) rfl ?_
  refine z_iconst (v := (-1)) (by decide) (pc' := 1) 0 rfl rfl ?_
  refine z_is2 rfl rfl (pc' := 2) 1 rfl rfl ?_
  refine z_iconst (v := nI 0) (by decide) (pc' := 3) 2 rfl rfl ?_
  refine z_is3 rfl rfl (pc' := 4) 3 rfl rfl ?_
  exact l_Mo_turns hi hg hm hx (S 0 1) 0 _ (by omega) rfl
set_option maxHeartbeats 4000000 in
set_option maxRecDepth 100000 in
theorem c_Mo_acts {G : zG} {n u : Nat} {ν : Nat → va_E} {s : Nat → Int32} {S : Nat → Nat → Nat} {mo : Nat} {pr fa : Nat → Nat} {sc ch : Int32} {rc : Nat} {ρ : Nat → Int32} {q : Nat → Int32} (hi : iS S) {D : Nat → Nat → Nat → Nat → Nat → Nat → Nat} (hD : dzM ρ rc D) {g : Nat} (hg : g < 6) (hm : mo ≤ 16) (hf9 : fa g ≤ 9) (hx : iX S pr fa) :
    zMet G 4 M_Mo_acts [.ref 88, .int (nI g)] n u (pm (zu ν 93 (.inl (1, 100, .inl q))) s (mk S mo pr fa sc ch rc ρ)) n u (zS none (fun q9 : Nat → Int32 => pm (zu ν 93 (.inl (1, 100, .inl q9))) s (mk S mo (cal S mo g (D (S 1 g) mo (fa g) (S 3 g) (S 2 g) g) pr fa).1 (cal S mo g (D (S 1 g) mo (fa g) (S 3 g) (S 2 g) g) pr fa).2 sc ch rc ρ))) := by
  refine z_start (lv := [.ref 88, .int (nI g), .retAddr 0]) K_Mo_acts rfl rfl (Nat.le_refl _) (Nat.le_refl _) (Nat.le_of_ble_eq_true rfl) rfl ?_
  have hd2 : D (S 1 g) mo (fa g) (S 3 g) (S 2 g) g ≤ 2 := by obtain ⟨β, its, -, -, h⟩ := hD; exact h _ _ _ _ _ _
  refine z_al0 (pc' := 1) 0 rfl rfl ?_
  refine z_il1 (pc' := 2) 1 rfl rfl ?_
  refine z_callVX1 (pc' := 5) 2 rfl rfl k_Mo_96 (by first | exact pm_f | exact pm_1 | (rw [pm_o (by decide)]; exact zu_s)) (c_Mo_does hi hD hg hm hf9) (by decide) (Nat.le_refl _) (Nat.le_refl _) rfl rfl (Nat.le_of_ble_eq_true rfl) (fun q2 => ?_)
  refine z_is2 rfl rfl (pc' := 6) 3 rfl rfl ?_
  refine z_il2 (pc' := 7) 4 rfl rfl ?_
  refine z_iconst (v := nI 1) (by decide) (pc' := 8) 5 rfl rfl ?_
  first | refine z_icmp_neN (pc' := 11) 6 rfl rfl (tgt := 19) rfl (by omega) (by omega) (fun h8 => ?_) (fun h8 => ?_) | refine z_icmp_ne (pc' := 11) 6 rfl rfl (tgt := 19) rfl (fun h8 => ?_) (fun h8 => ?_)
  · refine z_il2 (pc' := 20) 11 rfl rfl ?_
    refine z_iconst (v := nI 2) (by decide) (pc' := 21) 12 rfl rfl ?_
    first | refine z_icmp_neN (pc' := 24) 13 rfl rfl (tgt := 30) rfl (by omega) (by omega) (fun h21 => ?_) (fun h21 => ?_) | refine z_icmp_ne (pc' := 24) 13 rfl rfl (tgt := 30) rfl (fun h21 => ?_) (fun h21 => ?_)
    · exact z_return 18 rfl rfl rfl rfl (by refine ⟨rfl, q2, ?_⟩; unfold cal; rw [if_neg h21, if_neg h8])
    · refine z_al0 (pc' := 25) 14 rfl rfl ?_
      refine z_il1 (pc' := 26) 15 rfl rfl ?_
      refine z_iconst (v := (-1)) (by decide) (pc' := 27) 16 rfl rfl ?_
      refine z_callV0 (pc' := 30) 17 rfl rfl k_Mo_116 (by first | exact pm_f | exact pm_1 | (rw [pm_o (by decide)]; exact zu_s)) (c_Mo_gets (w := 6) hg) (by decide) (Nat.le_refl _) (Nat.le_refl _) rfl rfl (Nat.le_of_ble_eq_true rfl) ?_
      exact z_return 18 rfl rfl rfl rfl (by refine ⟨rfl, q2, ?_⟩; unfold cal; rw [if_pos h21])
  · refine z_al0 (pc' := 12) 7 rfl rfl ?_
    refine z_il1 (pc' := 13) 8 rfl rfl ?_
    refine z_callV0 (pc' := 16) 9 rfl rfl k_Mo_215 (by first | exact pm_f | exact pm_1 | (rw [pm_o (by decide)]; exact zu_s)) (c_Mo_turns hi hg hm hx) (by decide) (Nat.le_refl _) (Nat.le_refl _) rfl rfl (Nat.le_of_ble_eq_true rfl) ?_
    refine z_goto 10 rfl (tgt := 30) rfl ?_
    exact z_return 18 rfl rfl rfl rfl (by have h82 : ¬ D (S 1 g) mo (fa g) (S 3 g) (S 2 g) g = 2 := (by omega); refine ⟨rfl, q2, ?_⟩; unfold cal; rw [if_neg h82, if_pos h8]; by_cases h6 : fw S mo g pr = 6 <;> simp [h6])
/-- who is hidden, as the reference has it -/
def hdI (act : Nat) : Int32 := nI act - nI 1
theorem hdI_eq {g act : Nat} (hg : g < 2 ^ 30) (ha : act < 2 ^ 30) : nI g = hdI act ↔ g + 1 = act := by
  unfold hdI
  rw [← Int32.toInt_inj, pk_sub_toInt ha (by decide), nI_toInt (by omega)]
  omega
set_option maxHeartbeats 4000000 in
set_option maxRecDepth 100000 in
theorem l_Mo_goes47 {G : zG} {n u : Nat} {ν : Nat → va_E} {s : Nat → Int32} {S : Nat → Nat → Nat} {mo : Nat} {pr fa : Nat → Nat} {sc ch : Int32} {rc : Nat} {ρ : Nat → Int32} {q : Nat → Int32} (hi : iS S) {act us wo g cs : Nat} {Φ : zP} (hx : iX S pr fa) (hm : mo ≤ 16) (hg : g < S 0 0) (hu : us < 64) (K : zW G 5 M_Mo_goes 166 [.ref 88, .int (hdI act), .int (nI (gs2 S mo g pr fa us cs wo).2.2.1), .int (nI (gs2 S mo g pr fa us cs wo).2.2.2.2), .int (nI g), .retAddr 0] [] n u (pm (zu ν 93 (.inl (1, 100, .inl q))) (un s 14 (nI (gs2 S mo g pr fa us cs wo).2.2.2.1)) (mk S mo (gs2 S mo g pr fa us cs wo).1 (gs2 S mo g pr fa us cs wo).2.1 sc ch rc ρ)) n u Φ) :
    zW G 5 M_Mo_goes 47 [.ref 88, .int (hdI act), .int (nI us), .int (nI wo), .int (nI g), .retAddr 0] [] n u (pm (zu ν 93 (.inl (1, 100, .inl q))) (un s 14 (nI cs)) (mk S mo pr fa sc ch rc ρ)) n u Φ := by
  have hi0 := hi.1
  have hi1 := hi.2.1
  have hs9 := hi.2.2.2.2.2 g
  have hxg := hx g
  refine z_al0 (pc' := 48) 26 rfl rfl ?_
  refine z_il4 (pc' := 50) 27 rfl rfl ?_
  refine z_iconst (v := nI 3) (by decide) (pc' := 51) 28 rfl rfl ?_
  refine z_callV1 (pc' := 54) 29 rfl rfl k_Mo_75 (by first | exact pm_f | exact pm_1 | (rw [pm_o (by decide)]; exact zu_s)) (c_Mo_of3 (by omega)) (by decide) (Nat.le_refl _) (Nat.le_refl _) rfl rfl (Nat.le_of_ble_eq_true rfl) ?_
  refine z_is5 rfl rfl (pc' := 56) 30 rfl rfl ?_
  refine z_al0 (pc' := 57) 31 rfl rfl ?_
  refine z_il4 (pc' := 59) 32 rfl rfl ?_
  refine z_callV1 (pc' := 62) 33 rfl rfl k_Mo_221 (by first | exact pm_f | exact pm_1 | (rw [pm_o (by decide)]; exact zu_s)) (c_Mo_isCalmFor hi (by omega) hm (by omega)) (by decide) (Nat.le_refl _) (Nat.le_refl _) rfl rfl (Nat.le_of_ble_eq_true rfl) ?_
  first | refine z_if_neB (pc' := 65) 34 rfl rfl (tgt := 128) rfl (fun h62 => ?_) (fun h62 => ?_) | refine z_if_neN (pc' := 65) 34 rfl rfl (tgt := 128) rfl (by omega) (fun h62 => ?_) (fun h62 => ?_) | refine z_if_ne (pc' := 65) 34 rfl rfl (tgt := 128) rfl (fun h62 => ?_) (fun h62 => ?_)
  · refine z_il5 (pc' := 130) 75 rfl rfl ?_
    first | refine z_if_ltH (pc' := 133) 76 rfl rfl (tgt := 166) rfl (by omega) (fun h130 => ?_) (fun h130 => ?_) | refine z_if_ltN (pc' := 133) 76 rfl rfl (tgt := 166) rfl (by omega) (fun h130 => ?_) (fun h130 => ?_) | refine z_if_lt (pc' := 133) 76 rfl rfl (tgt := 166) rfl (fun h130 => ?_) (fun h130 => ?_)
    · refine z_less5 ?_
      rw [gs2, if_neg (fun z => h62 z.1), if_pos h130] at K
      exact K
    · refine z_al0 (pc' := 134) 77 rfl rfl ?_
      refine z_il4 (pc' := 136) 78 rfl rfl ?_
      refine z_iconst (v := nI 4) (by decide) (pc' := 137) 79 rfl rfl ?_
      refine z_al0 (pc' := 138) 80 rfl rfl ?_
      refine z_il4 (pc' := 140) 81 rfl rfl ?_
      refine z_iconst (v := nI 4) (by decide) (pc' := 141) 82 rfl rfl ?_
      refine z_callV1 (pc' := 144) 83 rfl rfl k_Mo_75 (by first | exact pm_f | exact pm_1 | (rw [pm_o (by decide)]; exact zu_s)) (c_Mo_of4 (by omega)) (by decide) (Nat.le_refl _) (Nat.le_refl _) rfl rfl (Nat.le_of_ble_eq_true rfl) ?_
      refine z_iconst (v := nI 1) (by decide) (pc' := 145) 84 rfl rfl ?_
      first | refine z_isubN (by omega) (pc' := 146) 85 rfl rfl ?_ | refine z_isub (pc' := 146) 85 rfl rfl ?_
      refine z_callV0 (pc' := 149) 86 rfl rfl k_Mo_88 (by first | exact pm_f | exact pm_1 | (rw [pm_o (by decide)]; exact zu_s)) (c_Mo_put4 (by omega)) (by decide) (Nat.le_refl _) (Nat.le_refl _) rfl rfl (Nat.le_of_ble_eq_true rfl) ?_
      refine z_al0 (pc' := 150) 87 rfl rfl ?_
      refine z_il4 (pc' := 152) 88 rfl rfl ?_
      refine z_iconst (v := nI 4) (by decide) (pc' := 153) 89 rfl rfl ?_
      refine z_callV1 (pc' := 156) 90 rfl rfl k_Mo_75 (by first | exact pm_f | exact pm_1 | (rw [pm_o (by decide)]; exact zu_s)) (c_Mo_of4 (by omega)) (by decide) (Nat.le_refl _) (Nat.le_refl _) rfl rfl (Nat.le_of_ble_eq_true rfl) ?_
      rw [un_s]
      first | refine z_if_neB (pc' := 159) 91 rfl rfl (tgt := 166) rfl (fun h156 => ?_) (fun h156 => ?_) | refine z_if_neN (pc' := 159) 91 rfl rfl (tgt := 166) rfl (by omega) (fun h156 => ?_) (fun h156 => ?_) | refine z_if_ne (pc' := 159) 91 rfl rfl (tgt := 166) rfl (fun h156 => ?_) (fun h156 => ?_)
      · refine z_less5 ?_
        rw [gs2, if_neg (fun z => h62 z.1), if_neg h130, if_neg (by omega)] at K
        exact K
      · refine z_al0 (pc' := 160) 92 rfl rfl ?_
        refine z_il4 (pc' := 162) 93 rfl rfl ?_
        refine z_iconst (v := (-1)) (by decide) (pc' := 163) 94 rfl rfl ?_
        refine z_callV0 (pc' := 166) 95 rfl rfl k_Mo_116 (by first | exact pm_f | exact pm_1 | (rw [pm_o (by decide)]; exact zu_s)) (c_Mo_gets (w := 6) (by omega)) (by decide) (Nat.le_refl _) (Nat.le_refl _) rfl rfl (Nat.le_of_ble_eq_true rfl) ?_
        refine z_less5 ?_
        rw [gs2, if_neg (fun z => h62 z.1), if_neg h130, if_pos (by omega)] at K
        rw [un_un]
        exact K
  · have hbl := (blB_iff.mp (Decidable.of_not_not h62)).1
    rw [hasI_n (show pr g ≠ 6 by omega)]
    refine z_il2 (pc' := 66) 35 rfl rfl ?_
    refine z_il5 (pc' := 68) 36 rfl rfl ?_
    refine z_ishr (pc' := 69) 37 rfl rfl ?_
    refine z_iconst (v := nI 1) (by decide) (pc' := 70) 38 rfl rfl ?_
    refine z_iand (pc' := 71) 39 rfl rfl ?_
    rw [nb_bit (by omega) (by omega)]
    first | refine z_if_neB (pc' := 74) 40 rfl rfl (tgt := 128) rfl (fun h71 => ?_) (fun h71 => ?_) | refine z_if_neN (pc' := 74) 40 rfl rfl (tgt := 128) rfl (by omega) (fun h71 => ?_) (fun h71 => ?_) | refine z_if_ne (pc' := 74) 40 rfl rfl (tgt := 128) rfl (fun h71 => ?_) (fun h71 => ?_)
    · refine z_il5 (pc' := 130) 75 rfl rfl ?_
      refine z_if_lt_f (pc' := 133) 76 rfl rfl (tgt := 166) rfl (nI_pos (by omega)) ?_
      refine z_al0 (pc' := 134) 77 rfl rfl ?_
      refine z_il4 (pc' := 136) 78 rfl rfl ?_
      refine z_iconst (v := nI 4) (by decide) (pc' := 137) 79 rfl rfl ?_
      refine z_al0 (pc' := 138) 80 rfl rfl ?_
      refine z_il4 (pc' := 140) 81 rfl rfl ?_
      refine z_iconst (v := nI 4) (by decide) (pc' := 141) 82 rfl rfl ?_
      refine z_callV1 (pc' := 144) 83 rfl rfl k_Mo_75 (by first | exact pm_f | exact pm_1 | (rw [pm_o (by decide)]; exact zu_s)) (c_Mo_of4 (by omega)) (by decide) (Nat.le_refl _) (Nat.le_refl _) rfl rfl (Nat.le_of_ble_eq_true rfl) ?_
      refine z_iconst (v := nI 1) (by decide) (pc' := 145) 84 rfl rfl ?_
      first | refine z_isubN (by omega) (pc' := 146) 85 rfl rfl ?_ | refine z_isub (pc' := 146) 85 rfl rfl ?_
      refine z_callV0 (pc' := 149) 86 rfl rfl k_Mo_88 (by first | exact pm_f | exact pm_1 | (rw [pm_o (by decide)]; exact zu_s)) (c_Mo_put4 (by omega)) (by decide) (Nat.le_refl _) (Nat.le_refl _) rfl rfl (Nat.le_of_ble_eq_true rfl) ?_
      refine z_al0 (pc' := 150) 87 rfl rfl ?_
      refine z_il4 (pc' := 152) 88 rfl rfl ?_
      refine z_iconst (v := nI 4) (by decide) (pc' := 153) 89 rfl rfl ?_
      refine z_callV1 (pc' := 156) 90 rfl rfl k_Mo_75 (by first | exact pm_f | exact pm_1 | (rw [pm_o (by decide)]; exact zu_s)) (c_Mo_of4 (by omega)) (by decide) (Nat.le_refl _) (Nat.le_refl _) rfl rfl (Nat.le_of_ble_eq_true rfl) ?_
      rw [un_s]
      first | refine z_if_neB (pc' := 159) 91 rfl rfl (tgt := 166) rfl (fun h156 => ?_) (fun h156 => ?_) | refine z_if_neN (pc' := 159) 91 rfl rfl (tgt := 166) rfl (by omega) (fun h156 => ?_) (fun h156 => ?_) | refine z_if_ne (pc' := 159) 91 rfl rfl (tgt := 166) rfl (fun h156 => ?_) (fun h156 => ?_)
      · refine z_less5 ?_
        rw [gs2, if_neg (fun z => h71 z.2), if_neg (show ¬ pr g = 6 by omega), if_neg (by omega)] at K
        exact K
      · refine z_al0 (pc' := 160) 92 rfl rfl ?_
        refine z_il4 (pc' := 162) 93 rfl rfl ?_
        refine z_iconst (v := (-1)) (by decide) (pc' := 163) 94 rfl rfl ?_
        refine z_callV0 (pc' := 166) 95 rfl rfl k_Mo_116 (by first | exact pm_f | exact pm_1 | (rw [pm_o (by decide)]; exact zu_s)) (c_Mo_gets (w := 6) (by omega)) (by decide) (Nat.le_refl _) (Nat.le_refl _) rfl rfl (Nat.le_of_ble_eq_true rfl) ?_
        refine z_less5 ?_
        rw [gs2, if_neg (fun z => h71 z.2), if_neg (show ¬ pr g = 6 by omega), if_pos (by omega)] at K
        rw [un_un]
        exact K
    · refine z_il2 (pc' := 75) 41 rfl rfl ?_
      refine z_iconst (v := nI 1) (by decide) (pc' := 76) 42 rfl rfl ?_
      refine z_il5 (pc' := 78) 43 rfl rfl ?_
      refine z_ishl (pc' := 79) 44 rfl rfl ?_
      rw [nb_shl1 (by omega)]
      refine z_ior (pc' := 80) 45 rfl rfl ?_
      rw [nb_or]
      refine z_is2 rfl rfl (pc' := 81) 46 rfl rfl ?_
      refine z_al0 (pc' := 82) 47 rfl rfl ?_
      refine z_dup rfl (pc' := 83) 48 rfl rfl ?_
      refine z_getf (pc' := 86) 49 rfl rfl f_Mo_218_12 (by first | exact pm_f | exact pm_1 | (rw [pm_o (by decide)]; exact zu_s)) (by rfl) ?_
      rw [un_s]
      refine z_iconst (v := nI 1) (by decide) (pc' := 87) 50 rfl rfl ?_
      refine z_il4 (pc' := 89) 51 rfl rfl ?_
      refine z_ishl (pc' := 90) 52 rfl rfl ?_
      rw [nb_shl1 (by omega)]
      refine z_ior (pc' := 91) 53 rfl rfl ?_
      rw [nb_or]
      refine z_putf (pc' := 94) 54 rfl rfl f_Mo_218_12 (by first | exact pm_f | exact pm_1 | (rw [pm_o (by decide)]; exact zu_s)) rfl rfl (by rfl) (by rfl) ?_
      dsimp only [List.set]
      rw [mob_14, pm_s0, un_un]
      refine z_il3 (pc' := 95) 55 rfl rfl ?_
      refine z_al0 (pc' := 96) 56 rfl rfl ?_
      refine z_il4 (pc' := 98) 57 rfl rfl ?_
      refine z_il5 (pc' := 100) 58 rfl rfl ?_
      refine z_al0 (pc' := 101) 59 rfl rfl ?_
      refine z_getf (pc' := 104) 60 rfl rfl f_Mo_9_12 (by first | exact pm_f | exact pm_1 | (rw [pm_o (by decide)]; exact zu_s)) (by rfl) ?_
      refine z_iconst (v := nI 1) (by decide) (pc' := 105) 61 rfl rfl ?_
      refine z_iald (pc' := 106) 62 rfl rfl (by first | exact pm_f | exact pm_1 | (rw [pm_o (by decide)]; exact zu_s)) (by omega) (by decide) ?_
      rw [mk_1]
      refine z_callV1 (pc' := 109) 63 rfl rfl k_Mo_120 (by first | exact pm_f | exact pm_1 | (rw [pm_o (by decide)]; exact zu_s)) (c_Mo_gainOf hi (by omega) (by omega) hm) (by decide) (Nat.le_refl _) (Nat.le_refl _) rfl rfl (Nat.le_of_ble_eq_true rfl) ?_
      first | refine z_iaddN (pc' := 110) 64 rfl rfl ?_ | refine z_iadd (pc' := 110) 64 rfl rfl ?_
      refine z_is3 rfl rfl (pc' := 111) 65 rfl rfl ?_
      refine z_al0 (pc' := 112) 66 rfl rfl ?_
      refine z_il4 (pc' := 114) 67 rfl rfl ?_
      refine z_iconst (v := nI 4) (by decide) (pc' := 115) 68 rfl rfl ?_
      refine z_al0 (pc' := 116) 69 rfl rfl ?_
      refine z_il4 (pc' := 118) 70 rfl rfl ?_
      refine z_iconst (v := nI 2) (by decide) (pc' := 119) 71 rfl rfl ?_
      refine z_callV1 (pc' := 122) 72 rfl rfl k_Mo_75 (by first | exact pm_f | exact pm_1 | (rw [pm_o (by decide)]; exact zu_s)) (c_Mo_of2 (by omega)) (by decide) (Nat.le_refl _) (Nat.le_refl _) rfl rfl (Nat.le_of_ble_eq_true rfl) ?_
      refine z_callV0 (pc' := 125) 73 rfl rfl k_Mo_88 (by first | exact pm_f | exact pm_1 | (rw [pm_o (by decide)]; exact zu_s)) (c_Mo_put4 (by omega)) (by decide) (Nat.le_refl _) (Nat.le_refl _) rfl rfl (Nat.le_of_ble_eq_true rfl) ?_
      refine z_goto 74 rfl (tgt := 166) rfl ?_
      refine z_less5 ?_
      rw [gs2, if_pos ⟨Decidable.of_not_not h62, h71⟩] at K
      exact K
set_option maxHeartbeats 4000000 in
set_option maxRecDepth 100000 in
theorem l_Mo_goes {G : zG} {n u : Nat} {ν : Nat → va_E} {s : Nat → Int32} {S : Nat → Nat → Nat} {mo : Nat} {sc ch : Int32} {rc : Nat} {ρ : Nat → Int32} (hi : iS S) {D : Nat → Nat → Nat → Nat → Nat → Nat → Nat} (hD : dzM ρ rc D) {act : Nat} (hm : mo ≤ 16) (hact : act < 2 ^ 30) : ∀ (j k : Nat) (pr fa : Nat → Nat) (q : Nat → Int32) (us cs wo : Nat), k + j = S 0 0 → iX S pr fa → us < 64 →
    zW G 5 M_Mo_goes 12 [.ref 88, .int (hdI act), .int (nI us), .int (nI wo), .int (nI k), .retAddr 0] [] n u (pm (zu ν 93 (.inl (1, 100, .inl q))) (un s 14 (nI cs)) (mk S mo pr fa sc ch rc ρ)) n u (zS (some (.int (nI (mgo S D mo act j k (pr, fa, us, cs, wo)).2.2.2.2))) (fun q9 : Nat → Int32 => pm (zu ν 93 (.inl (1, 100, .inl q9))) (un s 14 (nI (mgo S D mo act j k (pr, fa, us, cs, wo)).2.2.2.1)) (mk S (mo + 1) (mgo S D mo act j k (pr, fa, us, cs, wo)).1 (mgo S D mo act j k (pr, fa, us, cs, wo)).2.1 (sc + nI (mgo S D mo act j k (pr, fa, us, cs, wo)).2.2.2.2) ch rc ρ)))
  | 0, k, pr, fa, q, us, cs, wo, e, hx, hu => by
    have hi0 := hi.1
    have hi1 := hi.2.1
    have hxk := hx k
    refine z_il4 (pc' := 14) 9 rfl rfl ?_
    refine z_al0 (pc' := 15) 10 rfl rfl ?_
    refine z_getf (pc' := 18) 11 rfl rfl f_Mo_9_12 (by first | exact pm_f | exact pm_1 | (rw [pm_o (by decide)]; exact zu_s)) (by rfl) ?_
    refine z_iconst (v := nI 3) (by decide) (pc' := 19) 12 rfl rfl ?_
    refine z_iald (pc' := 20) 13 rfl rfl (by first | exact pm_f | exact pm_1 | (rw [pm_o (by decide)]; exact zu_s)) (by omega) (by decide) ?_
    rw [mk_3]
    first | refine z_icmp_geN (pc' := 23) 14 rfl rfl (tgt := 172) rfl (by omega) (by omega) (fun h20 => ?_) (fun h20 => ?_) | refine z_icmp_ge (pc' := 23) 14 rfl rfl (tgt := 172) rfl (fun h20 => ?_) (fun h20 => ?_)
    · refine z_al0 (pc' := 173) 98 rfl rfl ?_
      refine z_getf (pc' := 176) 99 rfl rfl f_Mo_9_12 (by first | exact pm_f | exact pm_1 | (rw [pm_o (by decide)]; exact zu_s)) (by rfl) ?_
      refine z_iconst (v := nI 4) (by decide) (pc' := 177) 100 rfl rfl ?_
      refine z_dup2 rfl rfl (pc' := 178) 101 rfl rfl ?_
      refine z_iald (pc' := 179) 102 rfl rfl (by first | exact pm_f | exact pm_1 | (rw [pm_o (by decide)]; exact zu_s)) (by omega) (by decide) ?_
      rw [mk_4]
      refine z_il3 (pc' := 180) 103 rfl rfl ?_
      first | refine z_iaddN (pc' := 181) 104 rfl rfl ?_ | refine z_iadd (pc' := 181) 104 rfl rfl ?_
      refine z_iast (pc' := 182) 105 rfl rfl (by first | exact pm_f | exact pm_1 | (rw [pm_o (by decide)]; exact zu_s)) (by omega) (by decide) ?_
      rw [mk_u_sc, pm_s1]
      refine z_al0 (pc' := 183) 106 rfl rfl ?_
      refine z_getf (pc' := 186) 107 rfl rfl f_Mo_9_12 (by first | exact pm_f | exact pm_1 | (rw [pm_o (by decide)]; exact zu_s)) (by rfl) ?_
      refine z_iconst (v := nI 1) (by decide) (pc' := 187) 108 rfl rfl ?_
      refine z_dup2 rfl rfl (pc' := 188) 109 rfl rfl ?_
      refine z_iald (pc' := 189) 110 rfl rfl (by first | exact pm_f | exact pm_1 | (rw [pm_o (by decide)]; exact zu_s)) (by omega) (by decide) ?_
      rw [mk_1]
      refine z_iconst (v := nI 1) (by decide) (pc' := 190) 111 rfl rfl ?_
      first | refine z_iaddN (pc' := 191) 112 rfl rfl ?_ | refine z_iadd (pc' := 191) 112 rfl rfl ?_
      refine z_iast (pc' := 192) 113 rfl rfl (by first | exact pm_f | exact pm_1 | (rw [pm_o (by decide)]; exact zu_s)) (by omega) (by decide) ?_
      rw [mk_u_mo, pm_s1]
      refine z_il3 (pc' := 193) 114 rfl rfl ?_
      exact z_ireturn 115 rfl rfl (by first | rfl | exact zbo_nar) rfl rfl (by exact ⟨rfl, q, rfl⟩)
    · exfalso; omega
  | j + 1, k, pr, fa, q, us, cs, wo, e, hx, hu => by
    have hi0 := hi.1
    have hi1 := hi.2.1
    have hxk := hx k
    refine z_il4 (pc' := 14) 9 rfl rfl ?_
    refine z_al0 (pc' := 15) 10 rfl rfl ?_
    refine z_getf (pc' := 18) 11 rfl rfl f_Mo_9_12 (by first | exact pm_f | exact pm_1 | (rw [pm_o (by decide)]; exact zu_s)) (by rfl) ?_
    refine z_iconst (v := nI 3) (by decide) (pc' := 19) 12 rfl rfl ?_
    refine z_iald (pc' := 20) 13 rfl rfl (by first | exact pm_f | exact pm_1 | (rw [pm_o (by decide)]; exact zu_s)) (by omega) (by decide) ?_
    rw [mk_3]
    first | refine z_icmp_geN (pc' := 23) 14 rfl rfl (tgt := 172) rfl (by omega) (by omega) (fun h20 => ?_) (fun h20 => ?_) | refine z_icmp_ge (pc' := 23) 14 rfl rfl (tgt := 172) rfl (fun h20 => ?_) (fun h20 => ?_)
    · exfalso; omega
    · refine z_il4 (pc' := 25) 15 rfl rfl ?_
      refine z_il1 (pc' := 26) 16 rfl rfl ?_
      first | refine z_icmp_neN (pc' := 29) 17 rfl rfl (tgt := 32) rfl (by omega) (by omega) (fun h26 => ?_) (fun h26 => ?_) | refine z_icmp_ne (pc' := 29) 17 rfl rfl (tgt := 32) rfl (fun h26 => ?_) (fun h26 => ?_)
      · refine z_al0 (pc' := 33) 19 rfl rfl ?_
        refine z_il4 (pc' := 35) 20 rfl rfl ?_
        refine z_callV1 (pc' := 38) 21 rfl rfl k_Mo_221 (by first | exact pm_f | exact pm_1 | (rw [pm_o (by decide)]; exact zu_s)) (c_Mo_isCalmFor hi (by omega) hm (by have := hxk.2.2 (by omega); omega)) (by decide) (Nat.le_refl _) (Nat.le_refl _) rfl rfl (Nat.le_of_ble_eq_true rfl) ?_
        first | refine z_if_eqB (pc' := 41) 22 rfl rfl (tgt := 47) rfl (fun h38 => ?_) (fun h38 => ?_) | refine z_if_eqN (pc' := 41) 22 rfl rfl (tgt := 47) rfl (by omega) (fun h38 => ?_) (fun h38 => ?_) | refine z_if_eq (pc' := 41) 22 rfl rfl (tgt := 47) rfl (fun h38 => ?_) (fun h38 => ?_)
        · have c9 : ca1 S D mo k pr fa = (pr, fa) := if_pos (Decidable.of_not_not h38)
          have e9 : gst S D mo act k (pr, fa, us, cs, wo) = gs2 S mo k (ca1 S D mo k pr fa).1 (ca1 S D mo k pr fa).2 us cs wo := if_neg (fun z => h26 ((hdI_eq (by omega) (by omega)).mpr z))
          have hg9 := gs2_ok (t := mo) (us := us) (cs := cs) (wo := wo) hi hx (g := k) (by omega) hu
          rw [mgo, e9, c9]
          refine l_Mo_goes47 hi hx hm (by omega) hu ?_
          first | refine z_inc4N rfl rfl (pc' := 169) 96 rfl rfl ?_ | refine z_inc4 rfl rfl rfl (pc' := 169) 96 rfl rfl ?_
          refine z_goto 97 rfl (tgt := 12) rfl ?_
          exact l_Mo_goes hi hD hm hact j (k + 1) _ _ _ _ _ _ (by omega) hg9.1 hg9.2
        · refine z_al0 (pc' := 42) 23 rfl rfl ?_
          refine z_il4 (pc' := 44) 24 rfl rfl ?_
          refine z_callVX0 (pc' := 47) 25 rfl rfl k_Mo_224 (by first | exact pm_f | exact pm_1 | (rw [pm_o (by decide)]; exact zu_s)) (c_Mo_acts hi hD (by omega) hm (by omega) hx) (by decide) (Nat.le_refl _) (Nat.le_refl _) rfl rfl (Nat.le_of_ble_eq_true rfl) (fun q44 => ?_)
          have c9 : ca1 S D mo k pr fa = cal S mo k (D (S 1 k) mo (fa k) (S 3 k) (S 2 k) k) pr fa := if_neg h38
          have e9 : gst S D mo act k (pr, fa, us, cs, wo) = gs2 S mo k (ca1 S D mo k pr fa).1 (ca1 S D mo k pr fa).2 us cs wo := if_neg (fun z => h26 ((hdI_eq (by omega) (by omega)).mpr z))
          have hg9 := gs2_ok (t := mo) (us := us) (cs := cs) (wo := wo) hi (iX_cal (t := mo) (dz := D (S 1 k) mo (fa k) (S 3 k) (S 2 k) k) hi hx (by omega)) (g := k) (by omega) hu
          rw [mgo, e9, c9]
          refine l_Mo_goes47 hi (iX_cal (t := mo) (dz := D (S 1 k) mo (fa k) (S 3 k) (S 2 k) k) hi hx (by omega)) hm (by omega) hu ?_
          first | refine z_inc4N rfl rfl (pc' := 169) 96 rfl rfl ?_ | refine z_inc4 rfl rfl rfl (pc' := 169) 96 rfl rfl ?_
          refine z_goto 97 rfl (tgt := 12) rfl ?_
          exact l_Mo_goes hi hD hm hact j (k + 1) _ _ _ _ _ _ (by omega) hg9.1 hg9.2
      · refine z_goto 18 rfl (tgt := 166) rfl ?_
        first | refine z_inc4N rfl rfl (pc' := 169) 96 rfl rfl ?_ | refine z_inc4 rfl rfl rfl (pc' := 169) 96 rfl rfl ?_
        refine z_goto 97 rfl (tgt := 12) rfl ?_
        have e9 : gst S D mo act k (pr, fa, us, cs, wo) = (pr, fa, us, cs, wo) := if_pos ((hdI_eq (by omega) (by omega)).mp h26)
        rw [mgo, e9]
        exact l_Mo_goes hi hD hm hact j (k + 1) pr fa q us cs wo (by omega) hx hu
set_option maxHeartbeats 4000000 in
set_option maxRecDepth 100000 in
theorem c_Mo_goes {G : zG} {n u : Nat} {ν : Nat → va_E} {s : Nat → Int32} {S : Nat → Nat → Nat} {mo : Nat} {pr fa : Nat → Nat} {sc ch : Int32} {rc : Nat} {ρ : Nat → Int32} {q : Nat → Int32} (hi : iS S) {D : Nat → Nat → Nat → Nat → Nat → Nat → Nat} (hD : dzM ρ rc D) {act : Nat} (hm : mo ≤ 16) (hact : act < 2 ^ 30) (hx : iX S pr fa) :
    zMet G 5 M_Mo_goes [.ref 88, .int (hdI act)] n u (pm (zu ν 93 (.inl (1, 100, .inl q))) s (mk S mo pr fa sc ch rc ρ)) n u (zS (some (.int (nI (mon S D mo act pr fa).2.2.2.2))) (fun q9 : Nat → Int32 => pm (zu ν 93 (.inl (1, 100, .inl q9))) (un s 14 (nI (mon S D mo act pr fa).2.2.2.1)) (mk S (mo + 1) (mon S D mo act pr fa).1 (mon S D mo act pr fa).2.1 (sc + nI (mon S D mo act pr fa).2.2.2.2) ch rc ρ))) := by
  refine z_start (lv := [.ref 88, .int (hdI act), .retAddr 0, .retAddr 0, .retAddr 0, .retAddr 0]) K_Mo_goes rfl rfl (Nat.le_refl _) (Nat.le_refl _) (Nat.le_of_ble_eq_true rfl) rfl ?_
  refine z_iconst (v := nI 0) (by decide) (pc' := 1) 0 rfl rfl ?_
  refine z_is2 rfl rfl (pc' := 2) 1 rfl rfl ?_
  refine z_iconst (v := nI 0) (by decide) (pc' := 3) 2 rfl rfl ?_
  refine z_is3 rfl rfl (pc' := 4) 3 rfl rfl ?_
  refine z_al0 (pc' := 5) 4 rfl rfl ?_
  refine z_iconst (v := nI 0) (by decide) (pc' := 6) 5 rfl rfl ?_
  refine z_putf (pc' := 9) 6 rfl rfl f_Mo_218_12 (by first | exact pm_f | exact pm_1 | (rw [pm_o (by decide)]; exact zu_s)) rfl rfl (by rfl) (by rfl) ?_
  dsimp only [List.set]
  rw [mob_14, pm_s0]
  refine z_iconst (v := nI 0) (by decide) (pc' := 10) 7 rfl rfl ?_
  refine z_is4 rfl rfl (pc' := 12) 8 rfl rfl ?_
  exact l_Mo_goes hi hD hm hact (S 0 0) 0 pr fa q 0 0 0 (by omega) hx (by decide)
