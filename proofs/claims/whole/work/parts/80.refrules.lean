/-! ===== the reference reads rules ===== -/
theorem mtk_5 {c : Nat} (h : vc c) : mtk c ≤ 5 ↔ c ≤ 5 := by
  rcases h.2 with q | q
  · exact (mtk_s c q).2.2.2.2.2.2.2.2.2.2.1
  · rw [mtk_b q]
    exact ⟨fun z => by omega, fun z => by omega⟩
theorem mtk_5e {c : Nat} (h : c ≤ 8) : mtk c = c := (mtk_s c (by omega)).2.2.2.2.2.2.2.2.2.2.2.2.2.2.1 h
theorem mtk_68 {c : Nat} (h : vc c) : (6 ≤ mtk c ∧ mtk c ≤ 8) ↔ (6 ≤ c ∧ c ≤ 8) := by
  rcases h.2 with q | q
  · exact (mtk_s c q).2.2.2.2.2.2.2.2.2.2.2.1
  · rw [mtk_b q]
    exact ⟨fun z => by omega, fun z => by omega⟩
theorem nI_s6 {c : Nat} (h : 6 ≤ c ∧ c ≤ 8) : nI c - nI 6 = nI (c - 6) := by
  rcases (show c = 6 ∨ c = 7 ∨ c = 8 by omega) with e | e | e <;> subst e <;> decide
theorem sgM_ex2 {ρ ρ' : Nat → Int32} : ∀ (t : zI) (b e : Nat), (∀ j, 118 ≤ j → j < 118 + e → ρ' j = ρ j) → sgM ρ b t e → sgM ρ' b t e
  | [], b, e, hq, h => h
  | (o, l, r) :: t, b, e, hq, h => by
    unfold sgM at h ⊢
    split at h
    · rename_i q; rw [if_pos q]
      have := sgM_le t _ _ h.2
      exact ⟨by rw [hq _ (by omega) (by omega)]; exact h.1, sgM_ex2 t _ _ hq h.2⟩
    · rename_i q; rw [if_neg q]
      split at h
      · rename_i q; rw [if_pos q]
        have := sgM_le t _ _ h.2
        exact ⟨by rw [hq _ (by omega) (by omega)]; exact h.1, sgM_ex2 t _ _ hq h.2⟩
      · rename_i q; rw [if_neg q]
        split at h
        · rename_i q; rw [if_pos q]
          have := sgM_le t _ _ h.2
          exact ⟨by rw [hq _ (by omega) (by omega)]; exact h.1, sgM_ex2 t _ _ hq h.2⟩
        · rename_i q; rw [if_neg q]
          have := sgM_le t _ _ h.2.2.2
          exact ⟨by rw [hq _ (by omega) (by omega)]; exact h.1, by rw [hq _ (by omega) (by omega)]; exact h.2.1, by rw [hq _ (by omega) (by omega)]; exact h.2.2.1, sgM_ex2 t _ _ hq h.2.2.2⟩
/-- the reference's rules so far -/
def rkL (rc la : Nat) (ρ : Nat → Int32) (L : zRu) : Prop := L.length = rc ∧ ∀ r a b ic im, L[r]? = some (a, b, ic, im) → ∃ bg en, ρ (86 + 4 * r) = nI a ∧ ρ (86 + 4 * r + 1) = nI b ∧ ρ (86 + 4 * r + 2) = nI bg ∧ ρ (86 + 4 * r + 3) = nI en ∧ sgM ρ bg im en ∧ en ≤ la
theorem rkL_add {rc la la' x y en : Nat} {ρ ρ' : Nat → Int32} {L : zRu} {ic im : zI} (h : rkL rc la ρ L) (hrc : rc < 8) (h0 : ρ' (86 + 4 * rc) = nI x) (h1 : ρ' (86 + 4 * rc + 1) = nI y) (h2 : ρ' (86 + 4 * rc + 2) = nI la) (h3 : ρ' (86 + 4 * rc + 3) = nI en) (hs : sgM ρ' la im en) (he : en ≤ la') (hl : la ≤ la') (hp : ∀ i, (i < 86 + 4 * rc ∨ (118 ≤ i ∧ i < 118 + la)) → ρ' i = ρ i) : rkL (rc + 1) la' ρ' (L ++ [(x, y, ic, im)]) := by
  obtain ⟨g1, g2⟩ := h
  refine ⟨by rw [List.length_append, g1]; rfl, fun r a b jc jm hr => ?_⟩
  by_cases e : r < rc
  · rw [List.getElem?_append_left (by omega)] at hr
    obtain ⟨bg, e9, a1, a2, a3, a4, a5, a6⟩ := g2 r a b jc jm hr
    refine ⟨bg, e9, ?_, ?_, ?_, ?_, sgM_ex2 _ _ _ (fun j q1 q2 => hp j (by omega)) a5, by omega⟩
    · rw [hp _ (by omega)]; exact a1
    · rw [hp _ (by omega)]; exact a2
    · rw [hp _ (by omega)]; exact a3
    · rw [hp _ (by omega)]; exact a4
  · have hlen := (List.getElem?_eq_some_iff.mp hr).1
    rw [List.length_append, g1] at hlen
    have hlen : r < rc + 1 := hlen
    have e2 : r = rc := by omega
    subst e2
    rw [List.getElem?_append_right (by omega), g1, Nat.sub_self] at hr
    cases hr
    exact ⟨la, en, h0, h1, h2, h3, hs, he⟩
def mrP (ν : Nat → va_E) (tc tp te : Nat → Nat) (S : Nat → Nat → Nat) (mo : Nat) (pr fa : Nat → Nat) (sc ch : Int32) (rc : Nat) (s : Nat → Int32) (L : zRu) (R : zR1) : zP := fun r μ' => r = none ∧ ∃ (s' ρ' : Nat → Int32) (la' rc' : Nat), μ' = pm ν s' (mk S mo pr fa sc ch rc' ρ') ∧ ST tc tp te s' R.1 (!R.2.1) 0 la' ∧ sEP s s' ∧ (R.2.1 = true → rc' = rc + 1 ∧ rkL (rc + 1) la' ρ' (aR L R.2.2) ∧ la' ≤ R.1)
set_option maxHeartbeats 4000000 in
set_option maxRecDepth 100000 in
theorem c_Mo_ruleHere {G : zG} {n u : Nat} {ν : Nat → va_E} {tc tp te : Nat → Nat} {N : Nat} (hT : iTk tc N) (hrd : rdS G n u ν tc tp te N) {S : Nat → Nat → Nat} {mo : Nat} {pr fa : Nat → Nat} {sc ch : Int32} {rc : Nat} {F j la : Nat} {s ρ : Nat → Int32} {Lr : zRu} {R : zR1} (hj : j ≤ N) (hla : la ≤ j) (hrc : rc < 8) (hb : rkL rc la ρ Lr) (hS : ST tc tp te s j false 0 la) (hp : ruR tc F j = some R) : zMet G 17 M_Mo_ruleHere [.ref 88] n u (pm ν s (mk S mo pr fa sc ch rc ρ)) n u (mrP ν tc tp te S mo pr fa sc ch rc s Lr R) := by
  have hN := hT.1
  have hv := hT.2.2 j
  have hvm := mtk_le hv
  refine z_start (lv := [.ref 88, .retAddr 0]) K_Mo_ruleHere rfl rfl (Nat.le_refl _) (Nat.le_refl _) (Nat.le_of_ble_eq_true rfl) rfl ?_
  refine z_bipush (v := nI 86) (by decide) (pc' := 2) 0 rfl rfl ?_
  refine z_iconst (v := nI 4) (by decide) (pc' := 3) 1 rfl rfl ?_
  refine z_al0 (pc' := 4) 2 rfl rfl ?_
  refine z_getf (pc' := 7) 3 rfl rfl f_Mo_9_12 (by first | exact pm_f | exact pm_1 | (rw [pm_o (by decide)]; assumption)) (by rfl) ?_
  refine z_bipush (v := nI 7) (by decide) (pc' := 9) 4 rfl rfl ?_
  refine z_iald (pc' := 10) 5 rfl rfl (by first | exact pm_f | exact pm_1 | (rw [pm_o (by decide)]; assumption)) (by omega) (by decide) ?_
  rw [mk_7]
  first | refine z_imulN (pc' := 11) 6 rfl rfl ?_ | refine z_imul (pc' := 11) 6 rfl rfl ?_
  first | refine z_iaddN (pc' := 12) 7 rfl rfl ?_ | refine z_iadd (pc' := 12) 7 rfl rfl ?_
  refine z_is1 rfl rfl (pc' := 13) 8 rfl rfl ?_
  refine z_al0 (pc' := 14) 9 rfl rfl ?_
  refine z_al0 (pc' := 15) 10 rfl rfl ?_
  refine z_getf (pc' := 18) 11 rfl rfl f_Mo_152_12 (by first | exact pm_f | exact pm_1 | (rw [pm_o (by decide)]; assumption)) (by rfl) ?_
  rw [hS.1.1]
  refine z_iconst (v := nI 5) (by decide) (pc' := 19) 12 rfl rfl ?_
  first | refine z_icmp_gtN (pc' := 22) 13 rfl rfl (tgt := 34) rfl (by omega) (by omega) (fun h19 => ?_) (fun h19 => ?_) | refine z_icmp_gt (pc' := 22) 13 rfl rfl (tgt := 34) rfl (fun h19 => ?_) (fun h19 => ?_)
  · refine z_iconst (v := nI 1) (by decide) (pc' := 35) 20 rfl rfl ?_
    refine z_goto 21 rfl (tgt := 39) rfl ?_
    refine z_putf (pc' := 42) 23 rfl rfl f_Mo_162_12 (by first | exact pm_f | exact pm_1 | (rw [pm_o (by decide)]; assumption)) rfl rfl (by rfl) (by rfl) ?_
    dsimp only [List.set]
    rw [mob_10, pm_s0, show nI 1 = bI true from rfl]
    obtain ⟨sA, esA⟩ : ∃ x, x = un s 10 (bI true) := ⟨_, rfl⟩
    rw [← esA]
    have hsA : ST tc tp te sA j true 0 la := by rw [esA]; exact ST_b hS
    have ksA : sEP s sA := by rw [esA]; exact sEP_u (by decide) (by decide)
    refine z_al0 (pc' := 43) 24 rfl rfl ?_
    refine z_getf (pc' := 46) 25 rfl rfl f_Mo_162_12 (by first | exact pm_f | exact pm_1 | (rw [pm_o (by decide)]; assumption)) (by rfl) ?_
    rw [hsA.2.1]
    refine z_if_eq_f (pc' := 49) 26 rfl rfl (tgt := 50) rfl (by decide) ?_
    exact z_return 27 rfl rfl rfl rfl (by rw [show ruR tc F j = some (j, false, none) from if_neg (fun z => by have := (mtk_5 hv).mpr z; omega)] at hp; cases hp; exact ⟨rfl, sA, ρ, la, rc, rfl, hsA, ksA, fun q => absurd q Bool.false_ne_true⟩)
  · refine z_al0 (pc' := 23) 14 rfl rfl ?_
    refine z_getf (pc' := 26) 15 rfl rfl f_Mo_9_12 (by first | exact pm_f | exact pm_1 | (rw [pm_o (by decide)]; assumption)) (by rfl) ?_
    refine z_bipush (v := nI 7) (by decide) (pc' := 28) 16 rfl rfl ?_
    refine z_iald (pc' := 29) 17 rfl rfl (by first | exact pm_f | exact pm_1 | (rw [pm_o (by decide)]; assumption)) (by omega) (by decide) ?_
    rw [mk_7]
    refine z_bipush (v := nI 8) (by decide) (pc' := 31) 18 rfl rfl ?_
    refine z_icmp_ne_t 19 rfl (tgt := 38) rfl (fun z => by have := (nI_eq (by omega) (by decide)).mp z; omega) ?_
    refine z_iconst (v := nI 0) (by decide) (pc' := 39) 22 rfl rfl ?_
    refine z_putf (pc' := 42) 23 rfl rfl f_Mo_162_12 (by first | exact pm_f | exact pm_1 | (rw [pm_o (by decide)]; assumption)) rfl rfl (by rfl) (by rfl) ?_
    dsimp only [List.set]
    rw [mob_10, pm_s0, show nI 0 = bI false from rfl]
    obtain ⟨sA, esA⟩ : ∃ x, x = un s 10 (bI false) := ⟨_, rfl⟩
    rw [← esA]
    have hsA : ST tc tp te sA j false 0 la := by rw [esA]; exact ST_b hS
    have ksA : sEP s sA := by rw [esA]; exact sEP_u (by decide) (by decide)
    refine z_al0 (pc' := 43) 24 rfl rfl ?_
    refine z_getf (pc' := 46) 25 rfl rfl f_Mo_162_12 (by first | exact pm_f | exact pm_1 | (rw [pm_o (by decide)]; assumption)) (by rfl) ?_
    rw [hsA.2.1]
    refine z_if_eq_t 26 rfl (tgt := 50) rfl rfl ?_
    have c5 : tc j ≤ 5 := (mtk_5 hv).mp h19
    have hjN : j ≠ N := fun z => by rw [z, hT.2.1] at c5; omega
    rw [ruR, if_pos c5] at hp
    refine z_al0 (pc' := 51) 28 rfl rfl ?_
    refine z_getf (pc' := 54) 29 rfl rfl f_Mo_9_12 (by first | exact pm_f | exact pm_1 | (rw [pm_o (by decide)]; assumption)) (by rfl) ?_
    refine z_il1 (pc' := 55) 30 rfl rfl ?_
    refine z_al0 (pc' := 56) 31 rfl rfl ?_
    refine z_getf (pc' := 59) 32 rfl rfl f_Mo_152_12 (by first | exact pm_f | exact pm_1 | (rw [pm_o (by decide)]; assumption)) (by rfl) ?_
    rw [hsA.1.1, mtk_5e (by omega)]
    refine z_iast (pc' := 60) 33 rfl rfl (by first | exact pm_f | exact pm_1 | (rw [pm_o (by decide)]; assumption)) (by omega) (by decide) ?_
    rw [pm_s1, mk_u_r9 (by omega)]
    refine z_al0 (pc' := 61) 34 rfl rfl ?_
    refine z_getf (pc' := 64) 35 rfl rfl f_Mo_9_12 (by first | exact pm_f | exact pm_1 | (rw [pm_o (by decide)]; assumption)) (by rfl) ?_
    refine z_il1 (pc' := 65) 36 rfl rfl ?_
    refine z_iconst (v := nI 2) (by decide) (pc' := 66) 37 rfl rfl ?_
    first | refine z_iaddN (pc' := 67) 38 rfl rfl ?_ | refine z_iadd (pc' := 67) 38 rfl rfl ?_
    refine z_al0 (pc' := 68) 39 rfl rfl ?_
    refine z_getf (pc' := 71) 40 rfl rfl f_Mo_169_12 (by first | exact pm_f | exact pm_1 | (rw [pm_o (by decide)]; assumption)) (by rfl) ?_
    rw [hsA.2.2.2]
    refine z_iast (pc' := 72) 41 rfl rfl (by first | exact pm_f | exact pm_1 | (rw [pm_o (by decide)]; assumption)) (by omega) (by decide) ?_
    rw [pm_s1, mk_u_r9 (by omega)]
    refine z_al0 (pc' := 73) 42 rfl rfl ?_
    refine z_callV (pc' := 76) 43 rfl rfl k_Mo_166 (by first | exact pm_f | exact pm_1 | (rw [pm_o (by decide)]; assumption)) (hrd _ _ _ (by omega) hsA.1) (by decide) (Nat.le_refl _) (Nat.le_refl _) rfl rfl (Nat.le_of_ble_eq_true rfl) (fun r73 μ73 h73 => ?_)
    obtain ⟨y0, s73, y1, x73a, x73b⟩ := h73
    subst y0; subst y1
    dsimp only [Option.toList_none, List.nil_append]
    have hs73 := ST_n hsA x73a x73b
    refine z_al0 (pc' := 77) 44 rfl rfl ?_
    refine z_bipush (v := nI 14) (by decide) (pc' := 79) 45 rfl rfl ?_
    refine z_callV (pc' := 82) 46 rfl rfl k_Mo_172 (by first | exact pm_f | exact pm_1 | (rw [pm_o (by decide)]; assumption)) (c_Mo_passes hT hrd hs73 (by omega) (by decide)) (by decide) (Nat.le_refl _) (Nat.le_refl _) rfl rfl (Nat.le_of_ble_eq_true rfl) (fun r79 μ79 h79 => ?_)
    obtain ⟨y0, s79, y1, y79a, y79b⟩ := h79
    subst y0; subst y1
    dsimp only [Option.toList_some, List.cons_append, List.nil_append]
    first | refine z_if_eqB (pc' := 85) 47 rfl rfl (tgt := 89) rfl (fun h82 => ?_) (fun h82 => ?_) | refine z_if_eqN (pc' := 85) 47 rfl rfl (tgt := 89) rfl (by omega) (fun h82 => ?_) (fun h82 => ?_) | refine z_if_eq (pc' := 85) 47 rfl rfl (tgt := 89) rfl (fun h82 => ?_) (fun h82 => ?_)
    · rw [if_neg h82] at y79a
      rw [if_neg (fun z => h82 ⟨rfl, (mtk_9 (hT.2.2 _)).mpr z⟩)] at hp
      cases hp
      have k89 : sEP s s79 := sEP_t ksA (sEP_t (sEP_n x73b) y79b)
      have hvD := mtk_le (hT.2.2 (j + 1))
      refine z_al0 (pc' := 90) 50 rfl rfl ?_
      refine z_getf (pc' := 93) 51 rfl rfl f_Mo_9_12 (by first | exact pm_f | exact pm_1 | (rw [pm_o (by decide)]; assumption)) (by rfl) ?_
      refine z_il1 (pc' := 94) 52 rfl rfl ?_
      refine z_iconst (v := nI 3) (by decide) (pc' := 95) 53 rfl rfl ?_
      first | refine z_iaddN (pc' := 96) 54 rfl rfl ?_ | refine z_iadd (pc' := 96) 54 rfl rfl ?_
      refine z_al0 (pc' := 97) 55 rfl rfl ?_
      refine z_getf (pc' := 100) 56 rfl rfl f_Mo_169_12 (by first | exact pm_f | exact pm_1 | (rw [pm_o (by decide)]; assumption)) (by rfl) ?_
      rw [y79a.2.2.2]
      refine z_iast (pc' := 101) 57 rfl rfl (by first | exact pm_f | exact pm_1 | (rw [pm_o (by decide)]; assumption)) (by omega) (by decide) ?_
      rw [pm_s1, mk_u_r9 (by omega)]
      refine z_al0 (pc' := 102) 58 rfl rfl ?_
      refine z_getf (pc' := 105) 59 rfl rfl f_Mo_9_12 (by first | exact pm_f | exact pm_1 | (rw [pm_o (by decide)]; assumption)) (by rfl) ?_
      refine z_il1 (pc' := 106) 60 rfl rfl ?_
      refine z_iconst (v := nI 1) (by decide) (pc' := 107) 61 rfl rfl ?_
      first | refine z_iaddN (pc' := 108) 62 rfl rfl ?_ | refine z_iadd (pc' := 108) 62 rfl rfl ?_
      refine z_al0 (pc' := 109) 63 rfl rfl ?_
      refine z_getf (pc' := 112) 64 rfl rfl f_Mo_152_12 (by first | exact pm_f | exact pm_1 | (rw [pm_o (by decide)]; assumption)) (by rfl) ?_
      rw [y79a.1.1]
      refine z_bipush (v := nI 6) (by decide) (pc' := 114) 65 rfl rfl ?_
      refine z_isub (pc' := 115) 66 rfl rfl ?_
      refine z_iast (pc' := 116) 67 rfl rfl (by first | exact pm_f | exact pm_1 | (rw [pm_o (by decide)]; assumption)) (by omega) (by decide) ?_
      rw [pm_s1, mk_u_r9 (by omega)]
      refine z_al0 (pc' := 117) 68 rfl rfl ?_
      refine z_al0 (pc' := 118) 69 rfl rfl ?_
      refine z_getf (pc' := 121) 70 rfl rfl f_Mo_162_12 (by first | exact pm_f | exact pm_1 | (rw [pm_o (by decide)]; assumption)) (by rfl) ?_
      rw [y79a.2.1]
      refine z_if_ne_f (pc' := 124) 71 rfl rfl (tgt := 138) rfl (by decide) ?_
      have ndd : 6 ≤ tc (j + 1) ∧ tc (j + 1) ≤ 8 → nI 6 ≤ nI (mtk (tc (j + 1))) ∧ nI (mtk (tc (j + 1))) ≤ nI 8 := fun q => ⟨nI_le ((mtk_68 (hT.2.2 _)).mpr q).1 (by omega), nI_le ((mtk_68 (hT.2.2 _)).mpr q).2 (by decide)⟩
      refine z_al0 (pc' := 125) 72 rfl rfl ?_
      refine z_getf (pc' := 128) 73 rfl rfl f_Mo_152_12 (by first | exact pm_f | exact pm_1 | (rw [pm_o (by decide)]; assumption)) (by rfl) ?_
      rw [y79a.1.1]
      refine z_bipush (v := nI 6) (by decide) (pc' := 130) 74 rfl rfl ?_
      refine z_bipush (v := nI 8) (by decide) (pc' := 132) 75 rfl rfl ?_
      refine z_callS1 (pc' := 135) 76 rfl rfl k_Mo_67 (c_Mo_in _ _ _) (by decide) (Nat.le_refl _) (Nat.le_refl _) rfl rfl (Nat.le_of_ble_eq_true rfl) ?_
      first | refine z_if_neB (pc' := 138) 77 rfl rfl (tgt := 142) rfl (fun h135 => ?_) (fun h135 => ?_) | refine z_if_neN (pc' := 138) 77 rfl rfl (tgt := 142) rfl (by omega) (fun h135 => ?_) (fun h135 => ?_) | refine z_if_ne (pc' := 138) 77 rfl rfl (tgt := 142) rfl (fun h135 => ?_) (fun h135 => ?_)
      · refine z_iconst (v := nI 0) (by decide) (pc' := 143) 80 rfl rfl ?_
        refine z_putf (pc' := 146) 81 rfl rfl f_Mo_162_12 (by first | exact pm_f | exact pm_1 | (rw [pm_o (by decide)]; assumption)) rfl rfl (by rfl) (by rfl) ?_
        dsimp only [List.set]
        rw [mob_10, pm_s0, show nI 0 = bI false from rfl]
        obtain ⟨sD, esD⟩ : ∃ x, x = un s79 10 (bI false) := ⟨_, rfl⟩
        rw [← esD]
        have hsD : ST tc tp te sD (j + 1) false 0 la := by rw [esD]; exact ST_b y79a
        have ksD : sEP s sD := by rw [esD]; exact sEP_t k89 (sEP_u (by decide) (by decide))
        refine z_al0 (pc' := 147) 82 rfl rfl ?_
        refine z_getf (pc' := 150) 83 rfl rfl f_Mo_162_12 (by first | exact pm_f | exact pm_1 | (rw [pm_o (by decide)]; assumption)) (by rfl) ?_
        rw [hsD.2.1]
        refine z_if_ne_f (pc' := 153) 84 rfl rfl (tgt := 186) rfl (by decide) ?_
        have hdd : 6 ≤ tc (j + 1) ∧ tc (j + 1) ≤ 8 := (mtk_68 (hT.2.2 _)).mp ⟨(nI_leI (by decide) (by omega)).mp h135.1, (nI_leI (by omega) (by decide)).mp h135.2⟩
        have hdN : (j + 1) ≠ N := fun z => by rw [z, hT.2.1] at hdd; omega
        have hfin : rkL (rc + 1) la (upd (upd (upd (upd ρ (86 + 4 * rc) (nI (tc j))) ((86 + 4 * rc) + 2) (nI la)) ((86 + 4 * rc) + 3) (nI la)) ((86 + 4 * rc) + 1) (nI (mtk (tc (j + 1))) - nI 6)) (Lr ++ [(tc j, tc (j + 1) - 6, [], [])]) := by
          refine rkL_add hb hrc ?_ ?_ ?_ ?_ rfl (Nat.le_refl _) (by omega) (fun i hi => ?_)
          · rw [upd_no (by omega), upd_no (by omega), upd_no (by omega), upd_at]
          · rw [upd_at, mtk_5e (by omega), nI_s6 hdd]
          · rw [upd_no (by omega), upd_no (by omega), upd_at]
          · rw [upd_no (by omega), upd_at]
          · rw [upd_no (by omega), upd_no (by omega), upd_no (by omega), upd_no (by omega)]
        refine z_al0 (pc' := 154) 85 rfl rfl ?_
        refine z_callV (pc' := 157) 86 rfl rfl k_Mo_166 (by first | exact pm_f | exact pm_1 | (rw [pm_o (by decide)]; assumption)) (hrd _ _ _ (by omega) hsD.1) (by decide) (Nat.le_refl _) (Nat.le_refl _) rfl rfl (Nat.le_of_ble_eq_true rfl) (fun r154 μ154 h154 => ?_)
        obtain ⟨y0, s154, y1, x154a, x154b⟩ := h154
        subst y0; subst y1
        dsimp only [Option.toList_none, List.nil_append]
        have hs154 := ST_n hsD x154a x154b
        refine z_al0 (pc' := 158) 87 rfl rfl ?_
        refine z_al0 (pc' := 159) 88 rfl rfl ?_
        refine z_bipush (v := nI 24) (by decide) (pc' := 161) 89 rfl rfl ?_
        refine z_callV (pc' := 164) 90 rfl rfl k_Mo_172 (by first | exact pm_f | exact pm_1 | (rw [pm_o (by decide)]; assumption)) (c_Mo_passes hT hrd hs154 (by omega) (by decide)) (by decide) (Nat.le_refl _) (Nat.le_refl _) rfl rfl (Nat.le_of_ble_eq_true rfl) (fun r161 μ161 h161 => ?_)
        obtain ⟨y0, s161, y1, y161a, y161b⟩ := h161
        subst y0; subst y1
        dsimp only [Option.toList_some, List.cons_append, List.nil_append]
        first | refine z_if_neB (pc' := 167) 91 rfl rfl (tgt := 171) rfl (fun h164 => ?_) (fun h164 => ?_) | refine z_if_neN (pc' := 167) 91 rfl rfl (tgt := 171) rfl (by omega) (fun h164 => ?_) (fun h164 => ?_) | refine z_if_ne (pc' := 167) 91 rfl rfl (tgt := 171) rfl (fun h164 => ?_) (fun h164 => ?_)
        · refine z_iconst (v := nI 0) (by decide) (pc' := 172) 94 rfl rfl ?_
          refine z_putf (pc' := 175) 95 rfl rfl f_Mo_162_12 (by first | exact pm_f | exact pm_1 | (rw [pm_o (by decide)]; assumption)) rfl rfl (by rfl) (by rfl) ?_
          rw [if_pos h164] at y161a
          dsimp only [List.set]
          rw [mob_10, pm_s0, show nI 0 = bI false from rfl]
          obtain ⟨sE, esE⟩ : ∃ x, x = un s161 10 (bI false) := ⟨_, rfl⟩
          rw [← esE]
          have hsE : ST tc tp te sE ((j + 1) + 1 + 1) false 0 la := by rw [esE]; exact ST_b y161a
          have ksE : sEP s sE := by rw [esE]; exact sEP_t (sEP_t ksD (sEP_t (sEP_n x154b) y161b)) (sEP_u (by decide) (by decide))
          refine z_al0 (pc' := 176) 96 rfl rfl ?_
          refine z_getf (pc' := 179) 97 rfl rfl f_Mo_9_12 (by first | exact pm_f | exact pm_1 | (rw [pm_o (by decide)]; assumption)) (by rfl) ?_
          refine z_bipush (v := nI 7) (by decide) (pc' := 181) 98 rfl rfl ?_
          refine z_dup2 rfl rfl (pc' := 182) 99 rfl rfl ?_
          refine z_iald (pc' := 183) 100 rfl rfl (by first | exact pm_f | exact pm_1 | (rw [pm_o (by decide)]; assumption)) (by omega) (by decide) ?_
          rw [mk_7]
          refine z_iconst (v := nI 1) (by decide) (pc' := 184) 101 rfl rfl ?_
          first | refine z_iaddN (pc' := 185) 102 rfl rfl ?_ | refine z_iadd (pc' := 185) 102 rfl rfl ?_
          refine z_iast (pc' := 186) 103 rfl rfl (by first | exact pm_f | exact pm_1 | (rw [pm_o (by decide)]; assumption)) (by omega) (by decide) ?_
          rw [pm_s1, mk_u_rc]
          exact z_return 104 rfl rfl rfl rfl (by rw [endR, if_pos hdd, if_pos ((mtk_18 (hT.2.2 _)).mp h164.2)]; exact ⟨rfl, sE, _, la, rc + 1, rfl, hsE, ksE, fun _ => ⟨rfl, hfin, by show la ≤ (j + 1) + 2; omega⟩⟩)
        · refine z_iconst (v := nI 1) (by decide) (pc' := 168) 92 rfl rfl ?_
          refine z_goto 93 rfl (tgt := 172) rfl ?_
          refine z_putf (pc' := 175) 95 rfl rfl f_Mo_162_12 (by first | exact pm_f | exact pm_1 | (rw [pm_o (by decide)]; assumption)) rfl rfl (by rfl) (by rfl) ?_
          rw [if_neg h164] at y161a
          dsimp only [List.set]
          rw [mob_10, pm_s0, show nI 1 = bI true from rfl]
          obtain ⟨sE, esE⟩ : ∃ x, x = un s161 10 (bI true) := ⟨_, rfl⟩
          rw [← esE]
          have hsE : ST tc tp te sE ((j + 1) + 1) true 0 la := by rw [esE]; exact ST_b y161a
          have ksE : sEP s sE := by rw [esE]; exact sEP_t (sEP_t ksD (sEP_t (sEP_n x154b) y161b)) (sEP_u (by decide) (by decide))
          refine z_al0 (pc' := 176) 96 rfl rfl ?_
          refine z_getf (pc' := 179) 97 rfl rfl f_Mo_9_12 (by first | exact pm_f | exact pm_1 | (rw [pm_o (by decide)]; assumption)) (by rfl) ?_
          refine z_bipush (v := nI 7) (by decide) (pc' := 181) 98 rfl rfl ?_
          refine z_dup2 rfl rfl (pc' := 182) 99 rfl rfl ?_
          refine z_iald (pc' := 183) 100 rfl rfl (by first | exact pm_f | exact pm_1 | (rw [pm_o (by decide)]; assumption)) (by omega) (by decide) ?_
          rw [mk_7]
          refine z_iconst (v := nI 1) (by decide) (pc' := 184) 101 rfl rfl ?_
          first | refine z_iaddN (pc' := 185) 102 rfl rfl ?_ | refine z_iadd (pc' := 185) 102 rfl rfl ?_
          refine z_iast (pc' := 186) 103 rfl rfl (by first | exact pm_f | exact pm_1 | (rw [pm_o (by decide)]; assumption)) (by omega) (by decide) ?_
          rw [pm_s1, mk_u_rc]
          exact z_return 104 rfl rfl rfl rfl (by rw [endR, if_pos hdd, if_neg (fun z => h164 ⟨rfl, (mtk_18 (hT.2.2 _)).mpr z⟩)]; exact ⟨rfl, sE, _, la, rc + 1, rfl, hsE, ksE, fun q => absurd q Bool.false_ne_true⟩)
      · skip
        refine z_iconst (v := nI 1) (by decide) (pc' := 139) 78 rfl rfl ?_
        refine z_goto 79 rfl (tgt := 143) rfl ?_
        refine z_putf (pc' := 146) 81 rfl rfl f_Mo_162_12 (by first | exact pm_f | exact pm_1 | (rw [pm_o (by decide)]; assumption)) rfl rfl (by rfl) (by rfl) ?_
        dsimp only [List.set]
        rw [mob_10, pm_s0, show nI 1 = bI true from rfl]
        obtain ⟨sD, esD⟩ : ∃ x, x = un s79 10 (bI true) := ⟨_, rfl⟩
        rw [← esD]
        have hsD : ST tc tp te sD (j + 1) true 0 la := by rw [esD]; exact ST_b y79a
        have ksD : sEP s sD := by rw [esD]; exact sEP_t k89 (sEP_u (by decide) (by decide))
        refine z_al0 (pc' := 147) 82 rfl rfl ?_
        refine z_getf (pc' := 150) 83 rfl rfl f_Mo_162_12 (by first | exact pm_f | exact pm_1 | (rw [pm_o (by decide)]; assumption)) (by rfl) ?_
        rw [hsD.2.1]
        refine z_if_ne_t 84 rfl (tgt := 186) rfl (by decide) ?_
        exact z_return 104 rfl rfl rfl rfl (by rw [endR, if_neg (fun q => h135 (ndd q))]; exact ⟨rfl, sD, _, la, rc, rfl, hsD, ksD, fun q => absurd q Bool.false_ne_true⟩)
    · rw [if_pos h82] at y79a
      have c9 := (mtk_9 (hT.2.2 _)).mp h82.2
      have a9 : j + 1 ≠ N := fun z => by rw [z, hT.2.1] at c9; cases c9
      rw [if_pos c9] at hp
      obtain ⟨r, h1, h2⟩ := Option.bind_eq_some_iff.mp hp
      cases h2
      obtain ⟨⟨g1, g2⟩, g3⟩ := (pP_pg hT F 3 _ _ _ _ r (by decide) (by omega) h1).1 (by decide)
      refine z_al0 (pc' := 86) 48 rfl rfl ?_
      refine z_callV (pc' := 89) 49 rfl rfl k_Mo_178 (by first | exact pm_f | exact pm_1 | (rw [pm_o (by decide)]; assumption)) (c_Mo_cond hT hrd 3 (by decide) F _ _ _ _ r (by omega) (by omega) y79a h1) (by decide) (Nat.le_refl _) (Nat.le_refl _) rfl rfl (Nat.le_of_ble_eq_true rfl) (fun r86 μ86 h86 => ?_)
      obtain ⟨y0, s86, ρ86, l86, y1, y86a, y86b, w86, v86, b86⟩ := h86
      subst y0; subst y1
      dsimp only [Option.toList_none, List.nil_append]
      have k89 : sEP s s86 := sEP_t ksA (sEP_t (sEP_n x73b) (sEP_t y79b y86b))
      have hvD := mtk_le (hT.2.2 r.1)
      refine z_al0 (pc' := 90) 50 rfl rfl ?_
      refine z_getf (pc' := 93) 51 rfl rfl f_Mo_9_12 (by first | exact pm_f | exact pm_1 | (rw [pm_o (by decide)]; assumption)) (by rfl) ?_
      refine z_il1 (pc' := 94) 52 rfl rfl ?_
      refine z_iconst (v := nI 3) (by decide) (pc' := 95) 53 rfl rfl ?_
      first | refine z_iaddN (pc' := 96) 54 rfl rfl ?_ | refine z_iadd (pc' := 96) 54 rfl rfl ?_
      refine z_al0 (pc' := 97) 55 rfl rfl ?_
      refine z_getf (pc' := 100) 56 rfl rfl f_Mo_169_12 (by first | exact pm_f | exact pm_1 | (rw [pm_o (by decide)]; assumption)) (by rfl) ?_
      rw [y86a.2.2.2]
      refine z_iast (pc' := 101) 57 rfl rfl (by first | exact pm_f | exact pm_1 | (rw [pm_o (by decide)]; assumption)) (by omega) (by decide) ?_
      rw [pm_s1, mk_u_r9 (by omega)]
      refine z_al0 (pc' := 102) 58 rfl rfl ?_
      refine z_getf (pc' := 105) 59 rfl rfl f_Mo_9_12 (by first | exact pm_f | exact pm_1 | (rw [pm_o (by decide)]; assumption)) (by rfl) ?_
      refine z_il1 (pc' := 106) 60 rfl rfl ?_
      refine z_iconst (v := nI 1) (by decide) (pc' := 107) 61 rfl rfl ?_
      first | refine z_iaddN (pc' := 108) 62 rfl rfl ?_ | refine z_iadd (pc' := 108) 62 rfl rfl ?_
      refine z_al0 (pc' := 109) 63 rfl rfl ?_
      refine z_getf (pc' := 112) 64 rfl rfl f_Mo_152_12 (by first | exact pm_f | exact pm_1 | (rw [pm_o (by decide)]; assumption)) (by rfl) ?_
      rw [y86a.1.1]
      refine z_bipush (v := nI 6) (by decide) (pc' := 114) 65 rfl rfl ?_
      refine z_isub (pc' := 115) 66 rfl rfl ?_
      refine z_iast (pc' := 116) 67 rfl rfl (by first | exact pm_f | exact pm_1 | (rw [pm_o (by decide)]; assumption)) (by omega) (by decide) ?_
      rw [pm_s1, mk_u_r9 (by omega)]
      refine z_al0 (pc' := 117) 68 rfl rfl ?_
      refine z_al0 (pc' := 118) 69 rfl rfl ?_
      refine z_getf (pc' := 121) 70 rfl rfl f_Mo_162_12 (by first | exact pm_f | exact pm_1 | (rw [pm_o (by decide)]; assumption)) (by rfl) ?_
      rw [y86a.2.1]
      first | refine z_if_neB (pc' := 124) 71 rfl rfl (tgt := 138) rfl (fun h121 => ?_) (fun h121 => ?_) | refine z_if_neN (pc' := 124) 71 rfl rfl (tgt := 138) rfl (by omega) (fun h121 => ?_) (fun h121 => ?_) | refine z_if_ne (pc' := 124) 71 rfl rfl (tgt := 138) rfl (fun h121 => ?_) (fun h121 => ?_)
      · have nr : ¬ r.2.1 = true := fun z => by rw [z] at h121; exact absurd h121 (by decide)
        refine z_iconst (v := nI 1) (by decide) (pc' := 139) 78 rfl rfl ?_
        refine z_goto 79 rfl (tgt := 143) rfl ?_
        refine z_putf (pc' := 146) 81 rfl rfl f_Mo_162_12 (by first | exact pm_f | exact pm_1 | (rw [pm_o (by decide)]; assumption)) rfl rfl (by rfl) (by rfl) ?_
        dsimp only [List.set]
        rw [mob_10, pm_s0, show nI 1 = bI true from rfl]
        obtain ⟨sD, esD⟩ : ∃ x, x = un s86 10 (bI true) := ⟨_, rfl⟩
        rw [← esD]
        have hsD : ST tc tp te sD r.1 true 0 l86 := by rw [esD]; exact ST_b y86a
        have ksD : sEP s sD := by rw [esD]; exact sEP_t k89 (sEP_u (by decide) (by decide))
        refine z_al0 (pc' := 147) 82 rfl rfl ?_
        refine z_getf (pc' := 150) 83 rfl rfl f_Mo_162_12 (by first | exact pm_f | exact pm_1 | (rw [pm_o (by decide)]; assumption)) (by rfl) ?_
        rw [hsD.2.1]
        refine z_if_ne_t 84 rfl (tgt := 186) rfl (by decide) ?_
        exact z_return 104 rfl rfl rfl rfl (by rw [if_neg nr]; exact ⟨rfl, sD, _, l86, rc, rfl, hsD, ksD, fun q => absurd q Bool.false_ne_true⟩)
      · have rr : r.2.1 = true := Classical.byContradiction (fun z => h121 (by rw [eq_false_of_ne_true z]; rfl))
        have ndd : 6 ≤ tc r.1 ∧ tc r.1 ≤ 8 → nI 6 ≤ nI (mtk (tc r.1)) ∧ nI (mtk (tc r.1)) ≤ nI 8 := fun q => ⟨nI_le ((mtk_68 (hT.2.2 _)).mpr q).1 (by omega), nI_le ((mtk_68 (hT.2.2 _)).mpr q).2 (by decide)⟩
        refine z_al0 (pc' := 125) 72 rfl rfl ?_
        refine z_getf (pc' := 128) 73 rfl rfl f_Mo_152_12 (by first | exact pm_f | exact pm_1 | (rw [pm_o (by decide)]; assumption)) (by rfl) ?_
        rw [y86a.1.1]
        refine z_bipush (v := nI 6) (by decide) (pc' := 130) 74 rfl rfl ?_
        refine z_bipush (v := nI 8) (by decide) (pc' := 132) 75 rfl rfl ?_
        refine z_callS1 (pc' := 135) 76 rfl rfl k_Mo_67 (c_Mo_in _ _ _) (by decide) (Nat.le_refl _) (Nat.le_refl _) rfl rfl (Nat.le_of_ble_eq_true rfl) ?_
        first | refine z_if_neB (pc' := 138) 77 rfl rfl (tgt := 142) rfl (fun h135 => ?_) (fun h135 => ?_) | refine z_if_neN (pc' := 138) 77 rfl rfl (tgt := 142) rfl (by omega) (fun h135 => ?_) (fun h135 => ?_) | refine z_if_ne (pc' := 138) 77 rfl rfl (tgt := 142) rfl (fun h135 => ?_) (fun h135 => ?_)
        · refine z_iconst (v := nI 0) (by decide) (pc' := 143) 80 rfl rfl ?_
          refine z_putf (pc' := 146) 81 rfl rfl f_Mo_162_12 (by first | exact pm_f | exact pm_1 | (rw [pm_o (by decide)]; assumption)) rfl rfl (by rfl) (by rfl) ?_
          dsimp only [List.set]
          rw [mob_10, pm_s0, show nI 0 = bI false from rfl]
          obtain ⟨sD, esD⟩ : ∃ x, x = un s86 10 (bI false) := ⟨_, rfl⟩
          rw [← esD]
          have hsD : ST tc tp te sD r.1 false 0 l86 := by rw [esD]; exact ST_b y86a
          have ksD : sEP s sD := by rw [esD]; exact sEP_t k89 (sEP_u (by decide) (by decide))
          refine z_al0 (pc' := 147) 82 rfl rfl ?_
          refine z_getf (pc' := 150) 83 rfl rfl f_Mo_162_12 (by first | exact pm_f | exact pm_1 | (rw [pm_o (by decide)]; assumption)) (by rfl) ?_
          rw [hsD.2.1]
          refine z_if_ne_f (pc' := 153) 84 rfl rfl (tgt := 186) rfl (by decide) ?_
          have hdd : 6 ≤ tc r.1 ∧ tc r.1 ≤ 8 := (mtk_68 (hT.2.2 _)).mp ⟨(nI_leI (by decide) (by omega)).mp h135.1, (nI_leI (by omega) (by decide)).mp h135.2⟩
          have hdN : r.1 ≠ N := fun z => by rw [z, hT.2.1] at hdd; omega
          have g2 := g2 rr
          have v86a := (v86 rr).1
          have hfin : rkL (rc + 1) l86 (upd (upd ρ86 ((86 + 4 * rc) + 3) (nI l86)) ((86 + 4 * rc) + 1) (nI (mtk (tc r.1)) - nI 6)) (Lr ++ [(tc j, tc r.1 - 6, r.2.2.1, r.2.2.2)]) := by
            refine rkL_add hb hrc ?_ ?_ ?_ ?_ (sgM_ex2 _ _ _ (fun i q1 q2 => by rw [upd_no (by omega), upd_no (by omega)]) (v86 rr).2) (Nat.le_refl _) (by omega) (fun i hi => ?_)
            · rw [upd_no (by omega), upd_no (by omega), w86 _ (by omega), upd_no (by omega), upd_at]
            · rw [upd_at, mtk_5e (by omega), nI_s6 hdd]
            · rw [upd_no (by omega), upd_no (by omega), w86 _ (by omega), upd_at]
            · rw [upd_no (by omega), upd_at]
            · rw [upd_no (by omega), upd_no (by omega), w86 _ (by omega), upd_no (by omega), upd_no (by omega)]
          refine z_al0 (pc' := 154) 85 rfl rfl ?_
          refine z_callV (pc' := 157) 86 rfl rfl k_Mo_166 (by first | exact pm_f | exact pm_1 | (rw [pm_o (by decide)]; assumption)) (hrd _ _ _ (by omega) hsD.1) (by decide) (Nat.le_refl _) (Nat.le_refl _) rfl rfl (Nat.le_of_ble_eq_true rfl) (fun r154 μ154 h154 => ?_)
          obtain ⟨y0, s154, y1, x154a, x154b⟩ := h154
          subst y0; subst y1
          dsimp only [Option.toList_none, List.nil_append]
          have hs154 := ST_n hsD x154a x154b
          refine z_al0 (pc' := 158) 87 rfl rfl ?_
          refine z_al0 (pc' := 159) 88 rfl rfl ?_
          refine z_bipush (v := nI 24) (by decide) (pc' := 161) 89 rfl rfl ?_
          refine z_callV (pc' := 164) 90 rfl rfl k_Mo_172 (by first | exact pm_f | exact pm_1 | (rw [pm_o (by decide)]; assumption)) (c_Mo_passes hT hrd hs154 (by omega) (by decide)) (by decide) (Nat.le_refl _) (Nat.le_refl _) rfl rfl (Nat.le_of_ble_eq_true rfl) (fun r161 μ161 h161 => ?_)
          obtain ⟨y0, s161, y1, y161a, y161b⟩ := h161
          subst y0; subst y1
          dsimp only [Option.toList_some, List.cons_append, List.nil_append]
          first | refine z_if_neB (pc' := 167) 91 rfl rfl (tgt := 171) rfl (fun h164 => ?_) (fun h164 => ?_) | refine z_if_neN (pc' := 167) 91 rfl rfl (tgt := 171) rfl (by omega) (fun h164 => ?_) (fun h164 => ?_) | refine z_if_ne (pc' := 167) 91 rfl rfl (tgt := 171) rfl (fun h164 => ?_) (fun h164 => ?_)
          · refine z_iconst (v := nI 0) (by decide) (pc' := 172) 94 rfl rfl ?_
            refine z_putf (pc' := 175) 95 rfl rfl f_Mo_162_12 (by first | exact pm_f | exact pm_1 | (rw [pm_o (by decide)]; assumption)) rfl rfl (by rfl) (by rfl) ?_
            rw [if_pos h164] at y161a
            dsimp only [List.set]
            rw [mob_10, pm_s0, show nI 0 = bI false from rfl]
            obtain ⟨sE, esE⟩ : ∃ x, x = un s161 10 (bI false) := ⟨_, rfl⟩
            rw [← esE]
            have hsE : ST tc tp te sE (r.1 + 1 + 1) false 0 l86 := by rw [esE]; exact ST_b y161a
            have ksE : sEP s sE := by rw [esE]; exact sEP_t (sEP_t ksD (sEP_t (sEP_n x154b) y161b)) (sEP_u (by decide) (by decide))
            refine z_al0 (pc' := 176) 96 rfl rfl ?_
            refine z_getf (pc' := 179) 97 rfl rfl f_Mo_9_12 (by first | exact pm_f | exact pm_1 | (rw [pm_o (by decide)]; assumption)) (by rfl) ?_
            refine z_bipush (v := nI 7) (by decide) (pc' := 181) 98 rfl rfl ?_
            refine z_dup2 rfl rfl (pc' := 182) 99 rfl rfl ?_
            refine z_iald (pc' := 183) 100 rfl rfl (by first | exact pm_f | exact pm_1 | (rw [pm_o (by decide)]; assumption)) (by omega) (by decide) ?_
            rw [mk_7]
            refine z_iconst (v := nI 1) (by decide) (pc' := 184) 101 rfl rfl ?_
            first | refine z_iaddN (pc' := 185) 102 rfl rfl ?_ | refine z_iadd (pc' := 185) 102 rfl rfl ?_
            refine z_iast (pc' := 186) 103 rfl rfl (by first | exact pm_f | exact pm_1 | (rw [pm_o (by decide)]; assumption)) (by omega) (by decide) ?_
            rw [pm_s1, mk_u_rc]
            exact z_return 104 rfl rfl rfl rfl (by rw [if_pos rr, endR, if_pos hdd, if_pos ((mtk_18 (hT.2.2 _)).mp h164.2)]; exact ⟨rfl, sE, _, l86, rc + 1, rfl, hsE, ksE, fun _ => ⟨rfl, hfin, by show l86 ≤ r.1 + 2; omega⟩⟩)
          · refine z_iconst (v := nI 1) (by decide) (pc' := 168) 92 rfl rfl ?_
            refine z_goto 93 rfl (tgt := 172) rfl ?_
            refine z_putf (pc' := 175) 95 rfl rfl f_Mo_162_12 (by first | exact pm_f | exact pm_1 | (rw [pm_o (by decide)]; assumption)) rfl rfl (by rfl) (by rfl) ?_
            rw [if_neg h164] at y161a
            dsimp only [List.set]
            rw [mob_10, pm_s0, show nI 1 = bI true from rfl]
            obtain ⟨sE, esE⟩ : ∃ x, x = un s161 10 (bI true) := ⟨_, rfl⟩
            rw [← esE]
            have hsE : ST tc tp te sE (r.1 + 1) true 0 l86 := by rw [esE]; exact ST_b y161a
            have ksE : sEP s sE := by rw [esE]; exact sEP_t (sEP_t ksD (sEP_t (sEP_n x154b) y161b)) (sEP_u (by decide) (by decide))
            refine z_al0 (pc' := 176) 96 rfl rfl ?_
            refine z_getf (pc' := 179) 97 rfl rfl f_Mo_9_12 (by first | exact pm_f | exact pm_1 | (rw [pm_o (by decide)]; assumption)) (by rfl) ?_
            refine z_bipush (v := nI 7) (by decide) (pc' := 181) 98 rfl rfl ?_
            refine z_dup2 rfl rfl (pc' := 182) 99 rfl rfl ?_
            refine z_iald (pc' := 183) 100 rfl rfl (by first | exact pm_f | exact pm_1 | (rw [pm_o (by decide)]; assumption)) (by omega) (by decide) ?_
            rw [mk_7]
            refine z_iconst (v := nI 1) (by decide) (pc' := 184) 101 rfl rfl ?_
            first | refine z_iaddN (pc' := 185) 102 rfl rfl ?_ | refine z_iadd (pc' := 185) 102 rfl rfl ?_
            refine z_iast (pc' := 186) 103 rfl rfl (by first | exact pm_f | exact pm_1 | (rw [pm_o (by decide)]; assumption)) (by omega) (by decide) ?_
            rw [pm_s1, mk_u_rc]
            exact z_return 104 rfl rfl rfl rfl (by rw [if_pos rr, endR, if_pos hdd, if_neg (fun z => h164 ⟨rfl, (mtk_18 (hT.2.2 _)).mpr z⟩)]; exact ⟨rfl, sE, _, l86, rc + 1, rfl, hsE, ksE, fun q => absurd q Bool.false_ne_true⟩)
        · skip
          refine z_iconst (v := nI 1) (by decide) (pc' := 139) 78 rfl rfl ?_
          refine z_goto 79 rfl (tgt := 143) rfl ?_
          refine z_putf (pc' := 146) 81 rfl rfl f_Mo_162_12 (by first | exact pm_f | exact pm_1 | (rw [pm_o (by decide)]; assumption)) rfl rfl (by rfl) (by rfl) ?_
          dsimp only [List.set]
          rw [mob_10, pm_s0, show nI 1 = bI true from rfl]
          obtain ⟨sD, esD⟩ : ∃ x, x = un s86 10 (bI true) := ⟨_, rfl⟩
          rw [← esD]
          have hsD : ST tc tp te sD r.1 true 0 l86 := by rw [esD]; exact ST_b y86a
          have ksD : sEP s sD := by rw [esD]; exact sEP_t k89 (sEP_u (by decide) (by decide))
          refine z_al0 (pc' := 147) 82 rfl rfl ?_
          refine z_getf (pc' := 150) 83 rfl rfl f_Mo_162_12 (by first | exact pm_f | exact pm_1 | (rw [pm_o (by decide)]; assumption)) (by rfl) ?_
          rw [hsD.2.1]
          refine z_if_ne_t 84 rfl (tgt := 186) rfl (by decide) ?_
          exact z_return 104 rfl rfl rfl rfl (by rw [if_pos rr, endR, if_neg (fun q => h135 (ndd q))]; exact ⟨rfl, sD, _, l86, rc, rfl, hsD, ksD, fun q => absurd q Bool.false_ne_true⟩)
set_option maxHeartbeats 4000000 in
set_option maxRecDepth 100000 in
theorem c_Mo_ruleFull {G : zG} {n u : Nat} {ν : Nat → va_E} {tc tp te : Nat → Nat} {N : Nat} (hT : iTk tc N) (hrd : rdS G n u ν tc tp te N) {S : Nat → Nat → Nat} {mo : Nat} {pr fa : Nat → Nat} {sc ch : Int32} {rc : Nat} {j la : Nat} {s ρ : Nat → Int32} (hrc : rc = 8) (hS : ST tc tp te s j false 0 la) : zMet G 17 M_Mo_ruleHere [.ref 88] n u (pm ν s (mk S mo pr fa sc ch rc ρ)) n u (fun r μ' => r = none ∧ ∃ s' : Nat → Int32, μ' = (pm ν s' (mk S mo pr fa sc ch rc ρ)) ∧ ST tc tp te s' j true 0 la ∧ sEP s s') := by
  subst hrc
  have hN := hT.1
  have hv := hT.2.2 j
  have hvm := mtk_le hv
  refine z_start (lv := [.ref 88, .retAddr 0]) K_Mo_ruleHere rfl rfl (Nat.le_refl _) (Nat.le_refl _) (Nat.le_of_ble_eq_true rfl) rfl ?_
  refine z_bipush (v := nI 86) (by decide) (pc' := 2) 0 rfl rfl ?_
  refine z_iconst (v := nI 4) (by decide) (pc' := 3) 1 rfl rfl ?_
  refine z_al0 (pc' := 4) 2 rfl rfl ?_
  refine z_getf (pc' := 7) 3 rfl rfl f_Mo_9_12 (by first | exact pm_f | exact pm_1 | (rw [pm_o (by decide)]; assumption)) (by rfl) ?_
  refine z_bipush (v := nI 7) (by decide) (pc' := 9) 4 rfl rfl ?_
  refine z_iald (pc' := 10) 5 rfl rfl (by first | exact pm_f | exact pm_1 | (rw [pm_o (by decide)]; assumption)) (by omega) (by decide) ?_
  rw [mk_7]
  first | refine z_imulN (pc' := 11) 6 rfl rfl ?_ | refine z_imul (pc' := 11) 6 rfl rfl ?_
  first | refine z_iaddN (pc' := 12) 7 rfl rfl ?_ | refine z_iadd (pc' := 12) 7 rfl rfl ?_
  refine z_is1 rfl rfl (pc' := 13) 8 rfl rfl ?_
  refine z_al0 (pc' := 14) 9 rfl rfl ?_
  refine z_al0 (pc' := 15) 10 rfl rfl ?_
  refine z_getf (pc' := 18) 11 rfl rfl f_Mo_152_12 (by first | exact pm_f | exact pm_1 | (rw [pm_o (by decide)]; assumption)) (by rfl) ?_
  rw [hS.1.1]
  refine z_iconst (v := nI 5) (by decide) (pc' := 19) 12 rfl rfl ?_
  first | refine z_icmp_gtN (pc' := 22) 13 rfl rfl (tgt := 34) rfl (by omega) (by omega) (fun h19 => ?_) (fun h19 => ?_) | refine z_icmp_gt (pc' := 22) 13 rfl rfl (tgt := 34) rfl (fun h19 => ?_) (fun h19 => ?_)
  · refine z_iconst (v := nI 1) (by decide) (pc' := 35) 20 rfl rfl ?_
    refine z_goto 21 rfl (tgt := 39) rfl ?_
    refine z_putf (pc' := 42) 23 rfl rfl f_Mo_162_12 (by first | exact pm_f | exact pm_1 | (rw [pm_o (by decide)]; assumption)) rfl rfl (by rfl) (by rfl) ?_
    dsimp only [List.set]
    rw [mob_10, pm_s0, show nI 1 = bI true from rfl]
    obtain ⟨sA, esA⟩ : ∃ x, x = un s 10 (bI true) := ⟨_, rfl⟩
    rw [← esA]
    have hsA : ST tc tp te sA j true 0 la := by rw [esA]; exact ST_b hS
    have ksA : sEP s sA := by rw [esA]; exact sEP_u (by decide) (by decide)
    refine z_al0 (pc' := 43) 24 rfl rfl ?_
    refine z_getf (pc' := 46) 25 rfl rfl f_Mo_162_12 (by first | exact pm_f | exact pm_1 | (rw [pm_o (by decide)]; assumption)) (by rfl) ?_
    rw [hsA.2.1]
    refine z_if_eq_f (pc' := 49) 26 rfl rfl (tgt := 50) rfl (by decide) ?_
    exact z_return 27 rfl rfl rfl rfl (by exact ⟨rfl, sA, rfl, hsA, ksA⟩)
  · refine z_al0 (pc' := 23) 14 rfl rfl ?_
    refine z_getf (pc' := 26) 15 rfl rfl f_Mo_9_12 (by first | exact pm_f | exact pm_1 | (rw [pm_o (by decide)]; assumption)) (by rfl) ?_
    refine z_bipush (v := nI 7) (by decide) (pc' := 28) 16 rfl rfl ?_
    refine z_iald (pc' := 29) 17 rfl rfl (by first | exact pm_f | exact pm_1 | (rw [pm_o (by decide)]; assumption)) (by omega) (by decide) ?_
    rw [mk_7]
    refine z_bipush (v := nI 8) (by decide) (pc' := 31) 18 rfl rfl ?_
    refine z_icmp_ne_f (pc' := 34) 19 rfl rfl (tgt := 38) rfl (by decide) ?_
    refine z_iconst (v := nI 1) (by decide) (pc' := 35) 20 rfl rfl ?_
    refine z_goto 21 rfl (tgt := 39) rfl ?_
    refine z_putf (pc' := 42) 23 rfl rfl f_Mo_162_12 (by first | exact pm_f | exact pm_1 | (rw [pm_o (by decide)]; assumption)) rfl rfl (by rfl) (by rfl) ?_
    dsimp only [List.set]
    rw [mob_10, pm_s0, show nI 1 = bI true from rfl]
    obtain ⟨sA, esA⟩ : ∃ x, x = un s 10 (bI true) := ⟨_, rfl⟩
    rw [← esA]
    have hsA : ST tc tp te sA j true 0 la := by rw [esA]; exact ST_b hS
    have ksA : sEP s sA := by rw [esA]; exact sEP_u (by decide) (by decide)
    refine z_al0 (pc' := 43) 24 rfl rfl ?_
    refine z_getf (pc' := 46) 25 rfl rfl f_Mo_162_12 (by first | exact pm_f | exact pm_1 | (rw [pm_o (by decide)]; assumption)) (by rfl) ?_
    rw [hsA.2.1]
    refine z_if_eq_f (pc' := 49) 26 rfl rfl (tgt := 50) rfl (by decide) ?_
    exact z_return 27 rfl rfl rfl rfl (by exact ⟨rfl, sA, rfl, hsA, ksA⟩)
set_option maxHeartbeats 4000000 in
set_option maxRecDepth 100000 in
theorem l_Mo_rulesB {G : zG} {n u d : Nat} {Φ : zP} {ν : Nat → va_E} {tc tp te : Nat → Nat} {s m : Nat → Int32} {j o la : Nat} (hS : ST tc tp te s j true o la) (K : zW G d M_Mo_rules 59 [.ref 88] [] n u (pm ν s m) n u Φ) : zW G d M_Mo_rules 36 [.ref 88] [] n u (pm ν s m) n u Φ := by
  refine z_al0 (pc' := 37) 21 rfl rfl ?_
  refine z_getf (pc' := 40) 22 rfl rfl f_Mo_162_12 (by first | exact pm_f | exact pm_1 | (rw [pm_o (by decide)]; assumption)) (by rfl) ?_
  rw [hS.2.1]
  refine z_if_ne_t 23 rfl (tgt := 59) rfl (by decide) ?_
  exact K
set_option maxHeartbeats 4000000 in
set_option maxRecDepth 100000 in
theorem l_Mo_rules {G : zG} {n u : Nat} {Φ : zP} {ν : Nat → va_E} {tc tp te : Nat → Nat} {N : Nat} (hT : iTk tc N) (hrd : rdS G n u ν tc tp te N) {S : Nat → Nat → Nat} {mo : Nat} {pr fa : Nat → Nat} {sc ch : Int32} {F : Nat} {s0 : Nat → Int32} {R : Nat × Bool × zRu} (K : (∀ (s' ρ' : Nat → Int32) (rc' la' : Nat) (b : Bool), ST tc tp te s' R.1 b 0 la' → sEP s0 s' → (b = false → R.2.1 = true ∧ tc R.1 = 25 ∧ rkL rc' la' ρ' R.2.2 ∧ la' ≤ 200) → (b = true → ¬ (R.2.1 = true ∧ tc R.1 = 25)) → zW G 18 M_Mo_rules 59 [.ref 88] [] n u (pm ν s' (mk S mo pr fa sc ch rc' ρ')) n u Φ)) : ∀ k j (s ρ : Nat → Int32) rc la (L : zRu), rc + k = 8 → j ≤ N → la ≤ j → rkL rc la ρ L → ST tc tp te s j false 0 la → sEP s0 s → rlR tc F k j L = some R → zW G 18 M_Mo_rules 36 [.ref 88] [] n u (pm ν s (mk S mo pr fa sc ch rc ρ)) n u Φ
  | 0, j, s, ρ, rc, la, L, e, hj, hl, hb, hS, hk, hp => by
    have hN := hT.1
    have hv := mtk_le (hT.2.2 j)
    cases hp
    refine z_al0 (pc' := 37) 21 rfl rfl ?_
    refine z_getf (pc' := 40) 22 rfl rfl f_Mo_162_12 (by first | exact pm_f | exact pm_1 | (rw [pm_o (by decide)]; assumption)) (by rfl) ?_
    rw [hS.2.1]
    refine z_if_ne_f (pc' := 43) 23 rfl rfl (tgt := 59) rfl (by decide) ?_
    refine z_al0 (pc' := 44) 24 rfl rfl ?_
    refine z_getf (pc' := 47) 25 rfl rfl f_Mo_152_12 (by first | exact pm_f | exact pm_1 | (rw [pm_o (by decide)]; assumption)) (by rfl) ?_
    rw [hS.1.1]
    refine z_bipush (v := nI 25) (by decide) (pc' := 49) 26 rfl rfl ?_
    first | refine z_icmp_eqN (pc' := 52) 27 rfl rfl (tgt := 59) rfl (by omega) (by omega) (fun h49 => ?_) (fun h49 => ?_) | refine z_icmp_eq (pc' := 52) 27 rfl rfl (tgt := 59) rfl (fun h49 => ?_) (fun h49 => ?_)
    · exact K s ρ rc la false hS hk (fun _ => ⟨rfl, (mtk_25 (hT.2.2 j)).mp h49, hb, by omega⟩) (fun z => Bool.noConfusion z)
    · refine z_al0 (pc' := 53) 28 rfl rfl ?_
      refine z_callV (pc' := 56) 29 rfl rfl k_Mo_197 (by first | exact pm_f | exact pm_1 | (rw [pm_o (by decide)]; assumption)) (c_Mo_ruleFull hT hrd (by omega) hS) (by decide) (Nat.le_refl _) (Nat.le_refl _) rfl rfl (Nat.le_of_ble_eq_true rfl) (fun r53 μ53 h53 => ?_)
      obtain ⟨y0, s53, y1, y53a, y53b⟩ := h53
      subst y0; subst y1
      dsimp only [Option.toList_none, List.nil_append]
      refine z_goto 30 rfl (tgt := 36) rfl ?_
      exact l_Mo_rulesB y53a (K s53 ρ rc la true y53a (sEP_t hk y53b) (fun z => Bool.noConfusion z) (fun _ z => h49 ((mtk_25 (hT.2.2 j)).mpr z.2)))
  | k + 1, j, s, ρ, rc, la, L, e, hj, hl, hb, hS, hk, hp => by
    have hN := hT.1
    have hv := mtk_le (hT.2.2 j)
    refine z_al0 (pc' := 37) 21 rfl rfl ?_
    refine z_getf (pc' := 40) 22 rfl rfl f_Mo_162_12 (by first | exact pm_f | exact pm_1 | (rw [pm_o (by decide)]; assumption)) (by rfl) ?_
    rw [hS.2.1]
    refine z_if_ne_f (pc' := 43) 23 rfl rfl (tgt := 59) rfl (by decide) ?_
    refine z_al0 (pc' := 44) 24 rfl rfl ?_
    refine z_getf (pc' := 47) 25 rfl rfl f_Mo_152_12 (by first | exact pm_f | exact pm_1 | (rw [pm_o (by decide)]; assumption)) (by rfl) ?_
    rw [hS.1.1]
    refine z_bipush (v := nI 25) (by decide) (pc' := 49) 26 rfl rfl ?_
    first | refine z_icmp_eqN (pc' := 52) 27 rfl rfl (tgt := 59) rfl (by omega) (by omega) (fun h49 => ?_) (fun h49 => ?_) | refine z_icmp_eq (pc' := 52) 27 rfl rfl (tgt := 59) rfl (fun h49 => ?_) (fun h49 => ?_)
    · have c25 := (mtk_25 (hT.2.2 j)).mp h49
      rw [rlR, if_pos c25] at hp
      cases hp
      exact K s ρ rc la false hS hk (fun _ => ⟨rfl, c25, hb, by omega⟩) (fun z => Bool.noConfusion z)
    · rw [rlR, if_neg (fun z => h49 ((mtk_25 (hT.2.2 j)).mpr z))] at hp
      obtain ⟨R1, h1, h2⟩ := Option.bind_eq_some_iff.mp hp
      have hR1 := ruR_le hT hj h1
      refine z_al0 (pc' := 53) 28 rfl rfl ?_
      refine z_callV (pc' := 56) 29 rfl rfl k_Mo_197 (by first | exact pm_f | exact pm_1 | (rw [pm_o (by decide)]; assumption)) (c_Mo_ruleHere hT hrd hj hl (by omega) hb hS h1) (by decide) (Nat.le_refl _) (Nat.le_refl _) rfl rfl (Nat.le_of_ble_eq_true rfl) (fun r53 μ53 h53 => ?_)
      obtain ⟨y0, s53, ρ53, l53, rc53, y1, y53a, y53b, y53c⟩ := h53
      subst y0; subst y1
      dsimp only [Option.toList_none, List.nil_append]
      refine z_goto 30 rfl (tgt := 36) rfl ?_
      by_cases w : R1.2.1 = true
      · rw [if_pos w] at h2
        obtain ⟨y4, y5, y6⟩ := y53c w
        subst y4
        exact l_Mo_rules hT hrd K k R1.1 s53 ρ53 (rc + 1) l53 _ (by omega) hR1 y6 y5 (by rw [w] at y53a; exact y53a) (sEP_t hk y53b) h2
      · rw [if_neg w] at h2
        cases h2
        have y53a : ST tc tp te s53 R1.1 true 0 l53 := by rw [eq_false_of_ne_true w] at y53a; exact y53a
        exact l_Mo_rulesB y53a (K s53 ρ53 rc53 l53 true y53a (sEP_t hk y53b) (fun z => Bool.noConfusion z) (fun _ z => Bool.false_ne_true z.1))
