set_option maxHeartbeats 4000000 in
set_option maxRecDepth 100000 in
theorem l_Mo_allB {G : zG} {n u : Nat} {ν : Nat → va_E} {tc tp te : Nat → Nat} {N : Nat} (hT : iTk tc N) (hrd : rdS G n u ν tc tp te N) {S : Nat → Nat → Nat} {mo : Nat} {pr fa : Nat → Nat} {sc ch : Int32} {rc : Nat} {L j : Nat} {s ρ : Nat → Int32} {o la : Nat} (hS : ST tc tp te s j true o la) (hj : j ≤ N) {Φ : zP} (K : ∀ s', ST tc tp te s' j true o la → sEP s s' → Φ none (pm ν s' (mk S mo pr fa sc ch rc ρ))) : zW G (6 + 3 * L) M_Mo_all 4 [.ref 88] [] n u (pm ν s (mk S mo pr fa sc ch rc ρ)) n u Φ := by
  refine z_al0 (pc' := 5) 2 rfl rfl ?_
  refine z_bipush (v := nI 16) (by decide) (pc' := 7) 3 rfl rfl ?_
  refine z_callV (pc' := 10) 4 rfl rfl k_Mo_172 (by first | exact pm_f | exact pm_1 | (rw [pm_o (by decide)]; assumption)) (c_Mo_passes hT hrd hS hj (by decide)) (by omega) (Nat.le_refl _) (Nat.le_refl _) rfl rfl (Nat.le_of_ble_eq_true rfl) (fun r7 μ7 h7 => ?_)
  obtain ⟨y0, s7, y1, y7a, y7b⟩ := h7
  subst y0; subst y1
  dsimp only [Option.toList_some, List.cons_append, List.nil_append]
  rw [if_neg (fun z => Bool.noConfusion z.1)] at y7a
  rw [zbo_f (fun z => Bool.noConfusion z.1)]
  refine z_if_eq_t 5 rfl (tgt := 26) rfl rfl ?_
  exact z_return 12 rfl rfl rfl rfl (by exact K s7 y7a y7b)
set_option maxHeartbeats 4000000 in
set_option maxRecDepth 100000 in
theorem l_Mo_all {G : zG} {n u : Nat} {ν : Nat → va_E} {tc tp te : Nat → Nat} {N : Nat} (hT : iTk tc N) (hrd : rdS G n u ν tc tp te N) {S : Nat → Nat → Nat} {mo : Nat} {pr fa : Nat → Nat} {sc ch : Int32} {rc : Nat} {L la : Nat} {s0 ρ : Nat → Int32} {R : zR9} (hL : L ≤ 3) (hsub : ∀ F j la (s ρ : Nat → Int32) R, j ≤ N → la ≤ j → ST tc tp te s j false (3 - (L)) la → pP tc F 0 (L) j [] [] = some R → zMet G (5 + 3 * L) M_Mo_one [.ref 88] n u (pm ν s (mk S mo pr fa sc ch rc ρ)) n u (moP ν tc tp te S mo pr fa sc ch rc s ρ (3 - (L)) la (200 + 2 * L) R)) : ∀ m F j (s ρ1 : Nat → Int32) la1 (ic im : zI), N - j < m → j ≤ N → pP tc F 1 L j ic im = some R → ST tc tp te s j false (3 - L) la1 → la1 = la + wl im → sgM ρ1 la im la1 → la1 ≤ j → (∀ i, i < 118 + la → ρ1 i = ρ i) → sEP s0 s → zW G (6 + 3 * L) M_Mo_all 4 [.ref 88] [] n u (pm ν s (mk S mo pr fa sc ch rc ρ1)) n u (moP ν tc tp te S mo pr fa sc ch rc s0 ρ (3 - L) la (201 + 2 * L) R)
  | 0, F, j, s, ρ1, la1, ic, im, hm, _, _, _, _, _, _, _, _ => by omega
  | m + 1, F, j, s, ρ1, la1, ic, im, hm, hj, hp, hS, hw, hs, hl, hr, he => by
    have hN := hT.1
    obtain ⟨F, rfl⟩ := fuel1 hp
    rw [pP_1] at hp
    refine z_al0 (pc' := 5) 2 rfl rfl ?_
    refine z_bipush (v := nI 16) (by decide) (pc' := 7) 3 rfl rfl ?_
    refine z_callV (pc' := 10) 4 rfl rfl k_Mo_172 (by first | exact pm_f | exact pm_1 | (rw [pm_o (by decide)]; assumption)) (c_Mo_passes hT hrd hS hj (by decide)) (by omega) (Nat.le_refl _) (Nat.le_refl _) rfl rfl (Nat.le_of_ble_eq_true rfl) (fun r7 μ7 h7 => ?_)
    obtain ⟨y0, s7, y1, y7a, y7b⟩ := h7
    subst y0; subst y1
    dsimp only [Option.toList_some, List.cons_append, List.nil_append]
    first | refine z_if_eqB (pc' := 13) 5 rfl rfl (tgt := 26) rfl (fun h10 => ?_) (fun h10 => ?_) | refine z_if_eqN (pc' := 13) 5 rfl rfl (tgt := 26) rfl (by omega) (fun h10 => ?_) (fun h10 => ?_) | refine z_if_eq (pc' := 13) 5 rfl rfl (tgt := 26) rfl (fun h10 => ?_) (fun h10 => ?_)
    · exact z_return 12 rfl rfl rfl rfl (by rw [if_neg h10] at y7a; rw [if_neg (fun z => h10 ⟨rfl, (mtk_11 (hT.2.2 j)).mpr z⟩)] at hp; cases hp; exact ⟨rfl, s7, ρ1, la1, rfl, y7a, sEP_t he y7b, hr, fun _ => ⟨hw, hs⟩, by omega⟩)
    · rw [if_pos h10] at y7a
      have c9 := (mtk_11 (hT.2.2 j)).mp h10.2
      have hne : j ≠ N := fun z => by rw [z, hT.2.1] at c9; cases c9
      rw [if_pos c9] at hp
      obtain ⟨r, h1, h2⟩ := Option.bind_eq_some_iff.mp hp
      obtain ⟨⟨g1, g2⟩, g3⟩ := (pP_pg hT F 0 _ _ _ _ r (by decide) (by omega) h1).1 (by decide)
      refine z_al0 (pc' := 14) 6 rfl rfl ?_
      refine z_callV (pc' := 17) 7 rfl rfl k_Mo_188 (by first | exact pm_f | exact pm_1 | (rw [pm_o (by decide)]; assumption)) (hsub F _ _ _ _ r (by omega) (by omega) y7a h1) (by omega) (Nat.le_refl _) (Nat.le_refl _) rfl rfl (Nat.le_of_ble_eq_true rfl) (fun r14 μ14 h14 => ?_)
      obtain ⟨y0, s14, ρ14, l14, y1, y14a, y14b, w14, v14, b14⟩ := h14
      subst y0; subst y1
      dsimp only [Option.toList_none, List.nil_append]
      refine z_al0 (pc' := 18) 8 rfl rfl ?_
      refine z_bipush (v := nI 16) (by decide) (pc' := 20) 9 rfl rfl ?_
      refine z_callV0 (pc' := 23) 10 rfl rfl k_Mo_184 (by first | exact pm_f | exact pm_1 | (rw [pm_o (by decide)]; assumption)) (c_Mo_step y14a (by omega)) (by omega) (Nat.le_refl _) (Nat.le_refl _) rfl rfl (Nat.le_of_ble_eq_true rfl) ?_
      refine z_goto 11 rfl (tgt := 4) rfl ?_
      have hlo : la ≤ la1 := by omega
      by_cases w : r.2.1 = true
      · rw [if_pos w] at h2
        have g2 := g2 w
        have g3 := g3 w
        have v14 := v14 w
        refine l_Mo_all hT hrd hL hsub m F r.1 _ _ (l14 + 1) _ _ (by omega) g1 h2 (ST_l (la' := l14 + 1) (by rw [w] at y14a; exact y14a)) ?_ ?_ (by omega) (fun i hi => ?_) (sEP_t he (sEP_t y7b (sEP_t y14b (sEP_u (by decide) (by decide)))))
        · rw [wl_app, wl_app]
          show _ = la + (wl im + wl r.2.2.2 + 1)
          omega
        · have hx : sgM (upd ρ14 (118 + l14) (nI 16)) l14 [(11, 0, 0)] (l14 + 1) := by
            unfold sgM
            rw [if_neg (by decide), if_pos rfl]
            exact ⟨upd_at, rfl⟩
          refine sgM_app hx _ _ (sgM_ext _ _ _ (fun i hi => upd_no (by omega)) ?_)
          exact sgM_app v14.2 _ _ (sgM_ext _ _ _ (fun i hi => w14 i hi) hs)
        · rw [upd_no (by omega), w14 i (by omega)]
          exact hr i hi
      · rw [if_neg w] at h2
        cases h2
        have y14a : ST tc tp te s14 r.1 true (3 - L) l14 := by rw [eq_false_of_ne_true w] at y14a; exact y14a
        refine l_Mo_allB hT hrd (ST_l (la' := l14 + 1) y14a) g1 (fun s' q1 q2 => ?_)
        exact ⟨rfl, s', _, l14 + 1, rfl, q1, sEP_t (sEP_t he (sEP_t y7b (sEP_t y14b (sEP_u (by decide) (by decide))))) q2, fun i hi => by rw [upd_no (by omega), w14 i (by omega)]; exact hr i hi, fun q => absurd q nf9, by omega⟩
set_option maxHeartbeats 4000000 in
set_option maxRecDepth 100000 in
theorem c_Mo_all {G : zG} {n u : Nat} {ν : Nat → va_E} {tc tp te : Nat → Nat} {N : Nat} (hT : iTk tc N) (hrd : rdS G n u ν tc tp te N) {S : Nat → Nat → Nat} {mo : Nat} {pr fa : Nat → Nat} {sc ch : Int32} {rc : Nat} {L : Nat} (hL : L ≤ 3) (hsub : ∀ F j la (s ρ : Nat → Int32) R, j ≤ N → la ≤ j → ST tc tp te s j false (3 - (L)) la → pP tc F 0 (L) j [] [] = some R → zMet G (5 + 3 * L) M_Mo_one [.ref 88] n u (pm ν s (mk S mo pr fa sc ch rc ρ)) n u (moP ν tc tp te S mo pr fa sc ch rc s ρ (3 - (L)) la (200 + 2 * L) R)) (F j la : Nat) (s ρ : Nat → Int32) (R : zR9) (hj : j ≤ N) (hla : la ≤ j) (hS : ST tc tp te s j false (3 - L) la) (hp : pP tc F 4 L j [] [] = some R) : zMet G (6 + 3 * L) M_Mo_all [.ref 88] n u (pm ν s (mk S mo pr fa sc ch rc ρ)) n u (moP ν tc tp te S mo pr fa sc ch rc s ρ (3 - L) la (201 + 2 * L) R) := by
  have hN := hT.1
  obtain ⟨F, rfl⟩ := fuel1 hp
  rw [pP_4] at hp
  obtain ⟨r, hr1, h2⟩ := Option.bind_eq_some_iff.mp hp
  obtain ⟨⟨g1, g2⟩, g3⟩ := (pP_pg hT F 0 _ _ _ _ r (by decide) (by omega) hr1).1 (by decide)
  refine z_start (lv := [.ref 88]) K_Mo_all rfl rfl (Nat.le_refl _) (Nat.le_refl _) (Nat.le_of_ble_eq_true rfl) rfl ?_
  refine z_al0 (pc' := 1) 0 rfl rfl ?_
  refine z_callV (pc' := 4) 1 rfl rfl k_Mo_188 (by first | exact pm_f | exact pm_1 | (rw [pm_o (by decide)]; assumption)) (hsub F _ _ _ _ r hj hla hS hr1) (by omega) (Nat.le_refl _) (Nat.le_refl _) rfl rfl (Nat.le_of_ble_eq_true rfl) (fun r1 μ1 h1 => ?_)
  obtain ⟨y0, s14, ρ14, l14, y1, y14a, y14b, w14, v14, b14⟩ := h1
  subst y0; subst y1
  dsimp only [Option.toList_none, List.nil_append]
  by_cases w : r.2.1 = true
  · rw [if_pos w] at h2
    have g2 := g2 w
    have v14 := v14 w
    exact l_Mo_all hT hrd hL hsub (N + 1) F r.1 s14 ρ14 l14 _ _ (by omega) g1 h2 (by rw [w] at y14a; exact y14a) v14.1 v14.2 (by omega) w14 y14b
  · rw [if_neg w] at h2
    cases h2
    have y14a : ST tc tp te s14 r.1 true (3 - L) l14 := by rw [eq_false_of_ne_true w] at y14a; exact y14a
    refine l_Mo_allB hT hrd y14a g1 (fun s' q1 q2 => ?_)
    exact ⟨rfl, s', ρ14, l14, rfl, q1, sEP_t y14b q2, w14, fun q => absurd q nf9, by omega⟩
set_option maxHeartbeats 4000000 in
set_option maxRecDepth 100000 in
theorem l_Mo_conditionB {G : zG} {n u : Nat} {ν : Nat → va_E} {tc tp te : Nat → Nat} {N : Nat} (hT : iTk tc N) (hrd : rdS G n u ν tc tp te N) {S : Nat → Nat → Nat} {mo : Nat} {pr fa : Nat → Nat} {sc ch : Int32} {rc : Nat} {L j : Nat} {s ρ : Nat → Int32} {o la : Nat} (hS : ST tc tp te s j true o la) (hj : j ≤ N) {Φ : zP} (K : ∀ s', ST tc tp te s' j true o la → sEP s s' → Φ none (pm ν s' (mk S mo pr fa sc ch rc ρ))) : zW G (7 + 3 * L) M_Mo_condition 4 [.ref 88] [] n u (pm ν s (mk S mo pr fa sc ch rc ρ)) n u Φ := by
  refine z_al0 (pc' := 5) 2 rfl rfl ?_
  refine z_bipush (v := nI 15) (by decide) (pc' := 7) 3 rfl rfl ?_
  refine z_callV (pc' := 10) 4 rfl rfl k_Mo_172 (by first | exact pm_f | exact pm_1 | (rw [pm_o (by decide)]; assumption)) (c_Mo_passes hT hrd hS hj (by decide)) (by omega) (Nat.le_refl _) (Nat.le_refl _) rfl rfl (Nat.le_of_ble_eq_true rfl) (fun r7 μ7 h7 => ?_)
  obtain ⟨y0, s7, y1, y7a, y7b⟩ := h7
  subst y0; subst y1
  dsimp only [Option.toList_some, List.cons_append, List.nil_append]
  rw [if_neg (fun z => Bool.noConfusion z.1)] at y7a
  rw [zbo_f (fun z => Bool.noConfusion z.1)]
  refine z_if_eq_t 5 rfl (tgt := 26) rfl rfl ?_
  exact z_return 12 rfl rfl rfl rfl (by exact K s7 y7a y7b)
set_option maxHeartbeats 4000000 in
set_option maxRecDepth 100000 in
theorem l_Mo_condition {G : zG} {n u : Nat} {ν : Nat → va_E} {tc tp te : Nat → Nat} {N : Nat} (hT : iTk tc N) (hrd : rdS G n u ν tc tp te N) {S : Nat → Nat → Nat} {mo : Nat} {pr fa : Nat → Nat} {sc ch : Int32} {rc : Nat} {L la : Nat} {s0 ρ : Nat → Int32} {R : zR9} (hL : L ≤ 3) (hsub : ∀ F j la (s ρ : Nat → Int32) R, j ≤ N → la ≤ j → ST tc tp te s j false (3 - (L)) la → pP tc F 4 (L) j [] [] = some R → zMet G (6 + 3 * L) M_Mo_all [.ref 88] n u (pm ν s (mk S mo pr fa sc ch rc ρ)) n u (moP ν tc tp te S mo pr fa sc ch rc s ρ (3 - (L)) la (201 + 2 * L) R)) : ∀ m F j (s ρ1 : Nat → Int32) la1 (ic im : zI), N - j < m → j ≤ N → pP tc F 2 L j ic im = some R → ST tc tp te s j false (3 - L) la1 → la1 = la + wl im → sgM ρ1 la im la1 → la1 ≤ j → (∀ i, i < 118 + la → ρ1 i = ρ i) → sEP s0 s → zW G (7 + 3 * L) M_Mo_condition 4 [.ref 88] [] n u (pm ν s (mk S mo pr fa sc ch rc ρ1)) n u (moP ν tc tp te S mo pr fa sc ch rc s0 ρ (3 - L) la (202 + 2 * L) R)
  | 0, F, j, s, ρ1, la1, ic, im, hm, _, _, _, _, _, _, _, _ => by omega
  | m + 1, F, j, s, ρ1, la1, ic, im, hm, hj, hp, hS, hw, hs, hl, hr, he => by
    have hN := hT.1
    obtain ⟨F, rfl⟩ := fuel1 hp
    rw [pP_2] at hp
    refine z_al0 (pc' := 5) 2 rfl rfl ?_
    refine z_bipush (v := nI 15) (by decide) (pc' := 7) 3 rfl rfl ?_
    refine z_callV (pc' := 10) 4 rfl rfl k_Mo_172 (by first | exact pm_f | exact pm_1 | (rw [pm_o (by decide)]; assumption)) (c_Mo_passes hT hrd hS hj (by decide)) (by omega) (Nat.le_refl _) (Nat.le_refl _) rfl rfl (Nat.le_of_ble_eq_true rfl) (fun r7 μ7 h7 => ?_)
    obtain ⟨y0, s7, y1, y7a, y7b⟩ := h7
    subst y0; subst y1
    dsimp only [Option.toList_some, List.cons_append, List.nil_append]
    first | refine z_if_eqB (pc' := 13) 5 rfl rfl (tgt := 26) rfl (fun h10 => ?_) (fun h10 => ?_) | refine z_if_eqN (pc' := 13) 5 rfl rfl (tgt := 26) rfl (by omega) (fun h10 => ?_) (fun h10 => ?_) | refine z_if_eq (pc' := 13) 5 rfl rfl (tgt := 26) rfl (fun h10 => ?_) (fun h10 => ?_)
    · exact z_return 12 rfl rfl rfl rfl (by rw [if_neg h10] at y7a; rw [if_neg (fun z => h10 ⟨rfl, (mtk_10 (hT.2.2 j)).mpr z⟩)] at hp; cases hp; exact ⟨rfl, s7, ρ1, la1, rfl, y7a, sEP_t he y7b, hr, fun _ => ⟨hw, hs⟩, by omega⟩)
    · rw [if_pos h10] at y7a
      have c9 := (mtk_10 (hT.2.2 j)).mp h10.2
      have hne : j ≠ N := fun z => by rw [z, hT.2.1] at c9; cases c9
      rw [if_pos c9] at hp
      obtain ⟨r, h1, h2⟩ := Option.bind_eq_some_iff.mp hp
      obtain ⟨⟨g1, g2⟩, g3⟩ := (pP_pg hT F 4 _ _ _ _ r (by decide) (by omega) h1).1 (by decide)
      refine z_al0 (pc' := 14) 6 rfl rfl ?_
      refine z_callV (pc' := 17) 7 rfl rfl k_Mo_191 (by first | exact pm_f | exact pm_1 | (rw [pm_o (by decide)]; assumption)) (hsub F _ _ _ _ r (by omega) (by omega) y7a h1) (by omega) (Nat.le_refl _) (Nat.le_refl _) rfl rfl (Nat.le_of_ble_eq_true rfl) (fun r14 μ14 h14 => ?_)
      obtain ⟨y0, s14, ρ14, l14, y1, y14a, y14b, w14, v14, b14⟩ := h14
      subst y0; subst y1
      dsimp only [Option.toList_none, List.nil_append]
      refine z_al0 (pc' := 18) 8 rfl rfl ?_
      refine z_bipush (v := nI 15) (by decide) (pc' := 20) 9 rfl rfl ?_
      refine z_callV0 (pc' := 23) 10 rfl rfl k_Mo_184 (by first | exact pm_f | exact pm_1 | (rw [pm_o (by decide)]; assumption)) (c_Mo_step y14a (by omega)) (by omega) (Nat.le_refl _) (Nat.le_refl _) rfl rfl (Nat.le_of_ble_eq_true rfl) ?_
      refine z_goto 11 rfl (tgt := 4) rfl ?_
      have hlo : la ≤ la1 := by omega
      by_cases w : r.2.1 = true
      · rw [if_pos w] at h2
        have g2 := g2 w
        have g3 := g3 w
        have v14 := v14 w
        refine l_Mo_condition hT hrd hL hsub m F r.1 _ _ (l14 + 1) _ _ (by omega) g1 h2 (ST_l (la' := l14 + 1) (by rw [w] at y14a; exact y14a)) ?_ ?_ (by omega) (fun i hi => ?_) (sEP_t he (sEP_t y7b (sEP_t y14b (sEP_u (by decide) (by decide)))))
        · rw [wl_app, wl_app]
          show _ = la + (wl im + wl r.2.2.2 + 1)
          omega
        · have hx : sgM (upd ρ14 (118 + l14) (nI 15)) l14 [(10, 0, 0)] (l14 + 1) := by
            unfold sgM
            rw [if_neg (by decide), if_neg (by decide), if_pos rfl]
            exact ⟨upd_at, rfl⟩
          refine sgM_app hx _ _ (sgM_ext _ _ _ (fun i hi => upd_no (by omega)) ?_)
          exact sgM_app v14.2 _ _ (sgM_ext _ _ _ (fun i hi => w14 i hi) hs)
        · rw [upd_no (by omega), w14 i (by omega)]
          exact hr i hi
      · rw [if_neg w] at h2
        cases h2
        have y14a : ST tc tp te s14 r.1 true (3 - L) l14 := by rw [eq_false_of_ne_true w] at y14a; exact y14a
        refine l_Mo_conditionB hT hrd (ST_l (la' := l14 + 1) y14a) g1 (fun s' q1 q2 => ?_)
        exact ⟨rfl, s', _, l14 + 1, rfl, q1, sEP_t (sEP_t he (sEP_t y7b (sEP_t y14b (sEP_u (by decide) (by decide))))) q2, fun i hi => by rw [upd_no (by omega), w14 i (by omega)]; exact hr i hi, fun q => absurd q nf9, by omega⟩
set_option maxHeartbeats 4000000 in
set_option maxRecDepth 100000 in
theorem c_Mo_condition {G : zG} {n u : Nat} {ν : Nat → va_E} {tc tp te : Nat → Nat} {N : Nat} (hT : iTk tc N) (hrd : rdS G n u ν tc tp te N) {S : Nat → Nat → Nat} {mo : Nat} {pr fa : Nat → Nat} {sc ch : Int32} {rc : Nat} {L : Nat} (hL : L ≤ 3) (hsub : ∀ F j la (s ρ : Nat → Int32) R, j ≤ N → la ≤ j → ST tc tp te s j false (3 - (L)) la → pP tc F 4 (L) j [] [] = some R → zMet G (6 + 3 * L) M_Mo_all [.ref 88] n u (pm ν s (mk S mo pr fa sc ch rc ρ)) n u (moP ν tc tp te S mo pr fa sc ch rc s ρ (3 - (L)) la (201 + 2 * L) R)) (F j la : Nat) (s ρ : Nat → Int32) (R : zR9) (hj : j ≤ N) (hla : la ≤ j) (hS : ST tc tp te s j false (3 - L) la) (hp : pP tc F 3 L j [] [] = some R) : zMet G (7 + 3 * L) M_Mo_condition [.ref 88] n u (pm ν s (mk S mo pr fa sc ch rc ρ)) n u (moP ν tc tp te S mo pr fa sc ch rc s ρ (3 - L) la (202 + 2 * L) R) := by
  have hN := hT.1
  obtain ⟨F, rfl⟩ := fuel1 hp
  rw [pP_3] at hp
  obtain ⟨r, hr1, h2⟩ := Option.bind_eq_some_iff.mp hp
  obtain ⟨⟨g1, g2⟩, g3⟩ := (pP_pg hT F 4 _ _ _ _ r (by decide) (by omega) hr1).1 (by decide)
  refine z_start (lv := [.ref 88]) K_Mo_condition rfl rfl (Nat.le_refl _) (Nat.le_refl _) (Nat.le_of_ble_eq_true rfl) rfl ?_
  refine z_al0 (pc' := 1) 0 rfl rfl ?_
  refine z_callV (pc' := 4) 1 rfl rfl k_Mo_191 (by first | exact pm_f | exact pm_1 | (rw [pm_o (by decide)]; assumption)) (hsub F _ _ _ _ r hj hla hS hr1) (by omega) (Nat.le_refl _) (Nat.le_refl _) rfl rfl (Nat.le_of_ble_eq_true rfl) (fun r1 μ1 h1 => ?_)
  obtain ⟨y0, s14, ρ14, l14, y1, y14a, y14b, w14, v14, b14⟩ := h1
  subst y0; subst y1
  dsimp only [Option.toList_none, List.nil_append]
  by_cases w : r.2.1 = true
  · rw [if_pos w] at h2
    have g2 := g2 w
    have v14 := v14 w
    exact l_Mo_condition hT hrd hL hsub (N + 1) F r.1 s14 ρ14 l14 _ _ (by omega) g1 h2 (by rw [w] at y14a; exact y14a) v14.1 v14.2 (by omega) w14 y14b
  · rw [if_neg w] at h2
    cases h2
    have y14a : ST tc tp te s14 r.1 true (3 - L) l14 := by rw [eq_false_of_ne_true w] at y14a; exact y14a
    refine l_Mo_conditionB hT hrd y14a g1 (fun s' q1 q2 => ?_)
    exact ⟨rfl, s', ρ14, l14, rfl, q1, sEP_t y14b q2, w14, fun q => absurd q nf9, by omega⟩
theorem c_Mo_cond {G : zG} {n u : Nat} {ν : Nat → va_E} {tc tp te : Nat → Nat} {N : Nat} (hT : iTk tc N) (hrd : rdS G n u ν tc tp te N) {S : Nat → Nat → Nat} {mo : Nat} {pr fa : Nat → Nat} {sc ch : Int32} {rc : Nat} : ∀ L, L ≤ 3 → ∀ F j la (s ρ : Nat → Int32) R, j ≤ N → la ≤ j → ST tc tp te s j false (3 - (L)) la → pP tc F 3 (L) j [] [] = some R → zMet G (7 + 3 * L) M_Mo_condition [.ref 88] n u (pm ν s (mk S mo pr fa sc ch rc ρ)) n u (moP ν tc tp te S mo pr fa sc ch rc s ρ (3 - (L)) la (202 + 2 * L) R)
  | 0, h => c_Mo_condition hT hrd h (c_Mo_all hT hrd h (c_Mo_one hT hrd h (fun z => absurd z (by decide))))
  | L + 1, h => c_Mo_condition hT hrd h (c_Mo_all hT hrd h (c_Mo_one hT hrd h (fun _ => c_Mo_cond hT hrd L (by omega))))
