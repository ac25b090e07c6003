set_option maxHeartbeats 4000000 in
set_option maxRecDepth 100000 in
theorem c_Mo_one {G : zG} {n u : Nat} {ν : Nat → va_E} {tc tp te : Nat → Nat} {N : Nat} (hT : iTk tc N) (hrd : rdS G n u ν tc tp te N) {S : Nat → Nat → Nat} {mo : Nat} {pr fa : Nat → Nat} {sc ch : Int32} {rc : Nat} {L : Nat} (hL : L ≤ 3) (ihc : 0 < L → ∀ F j la (s ρ : Nat → Int32) R, j ≤ N → la ≤ j → ST tc tp te s j false (3 - (L - 1)) la → pP tc F 3 (L - 1) j [] [] = some R → zMet G (7 + 3 * (L - 1)) M_Mo_condition [.ref 88] n u (pm ν s (mk S mo pr fa sc ch rc ρ)) n u (moP ν tc tp te S mo pr fa sc ch rc s ρ (3 - (L - 1)) la (202 + 2 * (L - 1)) R)) (F j la : Nat) (s ρ : Nat → Int32) (R : zR9) (hj : j ≤ N) (hla : la ≤ j) (hS : ST tc tp te s j false (3 - L) la) (hp : pP tc F 0 L j [] [] = some R) : zMet G (5 + 3 * L) M_Mo_one [.ref 88] n u (pm ν s (mk S mo pr fa sc ch rc ρ)) n u (moP ν tc tp te S mo pr fa sc ch rc s ρ (3 - L) la (200 + 2 * L) R) := by
  have hN := hT.1
  have hJ := ntC_le hT 201 j hj
  have hvJ := mtk_le (hT.2.2 (j + ntC tc 201 j))
  obtain ⟨F, rfl⟩ := fuel1 hp
  rw [pP_0] at hp
  refine z_start (lv := [.ref 88, .retAddr 0, .retAddr 0, .retAddr 0, .retAddr 0]) K_Mo_one rfl rfl (Nat.le_refl _) (Nat.le_refl _) (Nat.le_of_ble_eq_true rfl) rfl ?_
  refine z_iconst (v := nI 0) (by decide) (pc' := 1) 0 rfl rfl ?_
  refine z_is1 rfl rfl (pc' := 2) 1 rfl rfl ?_
  refine l_Mo_nots hT hrd (by omega) 201 j 0 s hj (by omega) hS (fun s1 hS1 kS1 => ?_)
  rw [Nat.zero_add]
  refine z_al0 (pc' := 18) 8 rfl rfl ?_
  refine z_getf (pc' := 21) 9 rfl rfl f_Mo_152_12 (by first | exact pm_f | exact pm_1 | (rw [pm_o (by decide)]; assumption)) (by rfl) ?_
  rw [hS1.1.1]
  refine z_bipush (v := nI 22) (by decide) (pc' := 23) 10 rfl rfl ?_
  first | refine z_icmp_neN (pc' := 26) 11 rfl rfl (tgt := 95) rfl (by omega) (by omega) (fun h23 => ?_) (fun h23 => ?_) | refine z_icmp_ne (pc' := 26) 11 rfl rfl (tgt := 95) rfl (fun h23 => ?_) (fun h23 => ?_)
  · rw [if_neg (fun z => h23 ((mtk_19 (hT.2.2 _)).mpr z.1))] at hp
    cases hp
    obtain ⟨⟨g1, g2⟩, g3⟩ := cmp_pg (j := j) (k := (ntC tc 201 j)) hT (by omega)
    refine z_al0 (pc' := 96) 47 rfl rfl ?_
    refine z_callV (pc' := 99) 48 rfl rfl k_Mo_181 (by first | exact pm_f | exact pm_1 | (rw [pm_o (by decide)]; assumption)) (c_Mo_side hT hrd hS1 hJ) (by omega) (Nat.le_refl _) (Nat.le_refl _) rfl rfl (Nat.le_of_ble_eq_true rfl) (fun r96 μ96 h96 => ?_)
    obtain ⟨v96, y0, s96, y1, y96a, y96c, y96b⟩ := h96
    subst y0; subst y1
    dsimp only [Option.toList_some, List.cons_append, List.nil_append]
    have z96 : sEP s s96 := sEP_t kS1 y96b
    refine z_is2 rfl rfl (pc' := 100) 49 rfl rfl ?_
    refine z_al0 (pc' := 101) 50 rfl rfl ?_
    refine z_getf (pc' := 104) 51 rfl rfl f_Mo_149_12 (by first | exact pm_f | exact pm_1 | (rw [pm_o (by decide)]; assumption)) (by rfl) ?_
    refine z_is3 rfl rfl (pc' := 105) 52 rfl rfl ?_
    refine z_al0 (pc' := 106) 53 rfl rfl ?_
    refine z_al0 (pc' := 107) 54 rfl rfl ?_
    refine z_getf (pc' := 110) 55 rfl rfl f_Mo_162_12 (by first | exact pm_f | exact pm_1 | (rw [pm_o (by decide)]; assumption)) (by rfl) ?_
    rw [y96a.2.1]
    first | refine z_if_neB (pc' := 113) 56 rfl rfl (tgt := 122) rfl (fun h110 => ?_) (fun h110 => ?_) | refine z_if_neN (pc' := 113) 56 rfl rfl (tgt := 122) rfl (by omega) (fun h110 => ?_) (fun h110 => ?_) | refine z_if_ne (pc' := 113) 56 rfl rfl (tgt := 122) rfl (fun h110 => ?_) (fun h110 => ?_)
    · refine z_iconst (v := nI 1) (by decide) (pc' := 123) 61 rfl rfl ?_
      refine z_goto 62 rfl (tgt := 127) rfl ?_
      refine z_putf (pc' := 130) 64 rfl rfl f_Mo_162_12 (by first | exact pm_f | exact pm_1 | (rw [pm_o (by decide)]; assumption)) rfl rfl (by rfl) (by rfl) ?_
      rw [if_pos h110, h110] at y96a
      dsimp only [List.set]
      rw [mob_10, pm_s0, show nI 1 = bI true from rfl]
      obtain ⟨sA, esA⟩ : ∃ x, x = un s96 10 (bI true) := ⟨_, rfl⟩
      rw [← esA]
      have hsA : ST tc tp te sA (j + ntC tc 201 j) true (3 - L) la := by rw [esA]; exact ST_b y96a
      have ksA : sEP s sA := by rw [esA]; exact sEP_t z96 (sEP_u (by decide) (by decide))
      refine z_al0 (pc' := 131) 65 rfl rfl ?_
      refine z_callV (pc' := 134) 66 rfl rfl k_Mo_181 (by first | exact pm_f | exact pm_1 | (rw [pm_o (by decide)]; assumption)) (c_Mo_side hT hrd hsA (by omega)) (by omega) (Nat.le_refl _) (Nat.le_refl _) rfl rfl (Nat.le_of_ble_eq_true rfl) (fun r131 μ131 h131 => ?_)
      obtain ⟨v131, y0, s131, y1, y131a, y131c, y131b⟩ := h131
      subst y0; subst y1
      dsimp only [Option.toList_some, List.cons_append, List.nil_append]
      have ksC : sEP s s131 := sEP_t ksA y131b
      have hsC : ST tc tp te s131 (j + ntC tc 201 j) true (3 - L) la := y131a
      refine z_is4 rfl rfl (pc' := 136) 67 rfl rfl ?_
      refine z_al0 (pc' := 137) 68 rfl rfl ?_
      refine z_getf (pc' := 140) 69 rfl rfl f_Mo_162_12 (by first | exact pm_f | exact pm_1 | (rw [pm_o (by decide)]; assumption)) (by rfl) ?_
      rw [hsC.2.1]
      refine z_if_ne_t 70 rfl (tgt := 159) rfl (by decide) ?_
      refine z_iconst (v := nI 0) (by decide) (pc' := 160) 80 rfl rfl ?_
      refine z_is2 rfl rfl (pc' := 161) 81 rfl rfl ?_
      rw [show cmpR tc (j + ntC tc 201 j) (ntC tc 201 j) = fl9 (j + ntC tc 201 j) from if_neg (fun z => by rw [z] at h110; exact absurd h110 (by decide))]
      exact zW_to (l_Mo_tailB (by omega) hsC) ⟨rfl, s131, ρ, la, rfl, hsC, ksC, fun _ _ => rfl, fun q => absurd q nf9, by omega⟩
    · have f96 := eq_false_of_ne_true h110
      rw [if_neg h110] at y96a
      rw [f96] at y96a
      have o1 : opB (tc (j + ntC tc 201 j)) = true := Classical.byContradiction (fun z => h110 (by rw [eq_false_of_ne_true z]; rfl))
      have vleft := y96c f96
      have a1 : (j + ntC tc 201 j) ≠ N := fun z => by rw [z, hT.2.1] at o1; exact absurd o1 (by decide)
      refine z_al0 (pc' := 114) 57 rfl rfl ?_
      refine z_bipush (v := nI 21) (by decide) (pc' := 116) 58 rfl rfl ?_
      refine z_callV (pc' := 119) 59 rfl rfl k_Mo_172 (by first | exact pm_f | exact pm_1 | (rw [pm_o (by decide)]; assumption)) (c_Mo_passes hT hrd y96a (by omega) (by decide)) (by omega) (Nat.le_refl _) (Nat.le_refl _) rfl rfl (Nat.le_of_ble_eq_true rfl) (fun r116 μ116 h116 => ?_)
      obtain ⟨y0, s116, y1, y116a, y116b⟩ := h116
      subst y0; subst y1
      dsimp only [Option.toList_some, List.cons_append, List.nil_append]
      first | refine z_if_neB (pc' := 122) 60 rfl rfl (tgt := 126) rfl (fun h119 => ?_) (fun h119 => ?_) | refine z_if_neN (pc' := 122) 60 rfl rfl (tgt := 126) rfl (by omega) (fun h119 => ?_) (fun h119 => ?_) | refine z_if_ne (pc' := 122) 60 rfl rfl (tgt := 126) rfl (fun h119 => ?_) (fun h119 => ?_)
      · have o2 : sgB (tc ((j + ntC tc 201 j) + 1)) = true := (mtk_sg (hT.2.2 _)).mp h119.2
        have val : s96 9 = _ := y96a.1.2.1 (Or.inr o2)
        have a2 : (j + ntC tc 201 j) + 1 ≠ N := fun z => by rw [z, hT.2.1] at o2; exact absurd o2 (by decide)
        refine z_iconst (v := nI 0) (by decide) (pc' := 127) 63 rfl rfl ?_
        refine z_putf (pc' := 130) 64 rfl rfl f_Mo_162_12 (by first | exact pm_f | exact pm_1 | (rw [pm_o (by decide)]; assumption)) rfl rfl (by rfl) (by rfl) ?_
        rw [if_pos h119] at y116a
        dsimp only [List.set]
        rw [mob_10, pm_s0, show nI 0 = bI false from rfl]
        obtain ⟨sA, esA⟩ : ∃ x, x = un s116 10 (bI false) := ⟨_, rfl⟩
        rw [← esA]
        have hsA : ST tc tp te sA ((j + ntC tc 201 j) + 1 + 1) false (3 - L) la := by rw [esA]; exact ST_b y116a
        have ksA : sEP s sA := by rw [esA]; exact sEP_t (sEP_t z96 y116b) (sEP_u (by decide) (by decide))
        refine z_al0 (pc' := 131) 65 rfl rfl ?_
        refine z_callV (pc' := 134) 66 rfl rfl k_Mo_181 (by first | exact pm_f | exact pm_1 | (rw [pm_o (by decide)]; assumption)) (c_Mo_side hT hrd hsA (by omega)) (by omega) (Nat.le_refl _) (Nat.le_refl _) rfl rfl (Nat.le_of_ble_eq_true rfl) (fun r131 μ131 h131 => ?_)
        obtain ⟨v131, y0, s131, y1, y131a, y131c, y131b⟩ := h131
        subst y0; subst y1
        dsimp only [Option.toList_some, List.cons_append, List.nil_append]
        have ksC : sEP s s131 := sEP_t ksA y131b
        refine z_is4 rfl rfl (pc' := 136) 67 rfl rfl ?_
        refine z_al0 (pc' := 137) 68 rfl rfl ?_
        refine z_getf (pc' := 140) 69 rfl rfl f_Mo_162_12 (by first | exact pm_f | exact pm_1 | (rw [pm_o (by decide)]; assumption)) (by rfl) ?_
        rw [y131a.2.1]
        first | refine z_if_neB (pc' := 143) 70 rfl rfl (tgt := 159) rfl (fun h140 => ?_) (fun h140 => ?_) | refine z_if_neN (pc' := 143) 70 rfl rfl (tgt := 159) rfl (by omega) (fun h140 => ?_) (fun h140 => ?_) | refine z_if_ne (pc' := 143) 70 rfl rfl (tgt := 159) rfl (fun h140 => ?_) (fun h140 => ?_)
        · refine z_iconst (v := nI 0) (by decide) (pc' := 160) 80 rfl rfl ?_
          refine z_is2 rfl rfl (pc' := 161) 81 rfl rfl ?_
          rw [if_pos h140, h140] at y131a
          rw [show cmpR tc (j + ntC tc 201 j) (ntC tc 201 j) = fl9 ((j + ntC tc 201 j) + 2) by rw [cmpR, if_pos o1, if_pos o2, if_neg (fun z => by rw [z] at h140; exact absurd h140 (by decide))]]
          exact zW_to (l_Mo_tailB (by omega) y131a) ⟨rfl, s131, ρ, la, rfl, y131a, ksC, fun _ _ => rfl, fun q => absurd q nf9, by omega⟩
        · have f131 := eq_false_of_ne_true h140
          rw [if_neg h140] at y131a
          rw [f131] at y131a
          have hsD := y131a
          have vright := y131c f131
          have o3 : opB (tc ((j + ntC tc 201 j) + 2)) = true := Classical.byContradiction (fun z => h140 (by rw [show (j + ntC tc 201 j) + 1 + 1 = (j + ntC tc 201 j) + 2 from rfl, eq_false_of_ne_true z]; rfl))
          have a3 : (j + ntC tc 201 j) + 2 ≠ N := fun z => by rw [z, hT.2.1] at o3; exact absurd o3 (by decide)
          refine z_al0 (pc' := 144) 71 rfl rfl ?_
          refine z_il3 (pc' := 145) 72 rfl rfl ?_
          refine z_callV0 (pc' := 148) 73 rfl rfl k_Mo_184 (by first | exact pm_f | exact pm_1 | (rw [pm_o (by decide)]; assumption)) (c_Mo_step hsD (by omega)) (by omega) (Nat.le_refl _) (Nat.le_refl _) rfl rfl (Nat.le_of_ble_eq_true rfl) ?_
          refine z_al0 (pc' := 149) 74 rfl rfl ?_
          refine z_il2 (pc' := 150) 75 rfl rfl ?_
          refine z_callV0 (pc' := 153) 76 rfl rfl k_Mo_184 (by first | exact pm_f | exact pm_1 | (rw [pm_o (by decide)]; assumption)) (c_Mo_step (ST_l (la' := la + 1) hsD) (by omega)) (by omega) (Nat.le_refl _) (Nat.le_refl _) rfl rfl (Nat.le_of_ble_eq_true rfl) ?_
          refine z_al0 (pc' := 154) 77 rfl rfl ?_
          refine z_il4 (pc' := 156) 78 rfl rfl ?_
          refine z_callV0 (pc' := 159) 79 rfl rfl k_Mo_184 (by first | exact pm_f | exact pm_1 | (rw [pm_o (by decide)]; assumption)) (c_Mo_step (ST_l (la' := la + 1 + 1) (ST_l (la' := la + 1) hsD)) (by omega)) (by omega) (Nat.le_refl _) (Nat.le_refl _) rfl rfl (Nat.le_of_ble_eq_true rfl) ?_
          refine z_iconst (v := nI 0) (by decide) (pc' := 160) 80 rfl rfl ?_
          refine z_is2 rfl rfl (pc' := 161) 81 rfl rfl ?_
          have g0 : cmpR tc (j + ntC tc 201 j) (ntC tc 201 j) = ((j + ntC tc 201 j) + 3, true, (tc ((j + ntC tc 201 j) + 1), tc (j + ntC tc 201 j), tc ((j + ntC tc 201 j) + 2)) :: nts ((ntC tc 201 j) % 2), (tc ((j + ntC tc 201 j) + 1), tc (j + ntC tc 201 j), tc ((j + ntC tc 201 j) + 2)) :: nts (ntC tc 201 j)) := by rw [cmpR, if_pos o1, if_pos o2, if_pos o3]
          have s21 := sgB_t.mp o2
          rw [g0]
          rw [g0] at g1 g2
          have g1 : (j + ntC tc 201 j) + 3 ≤ N := g1
          refine zW_im (l_Mo_tail (by omega) (by omega) (ntC tc 201 j) 0 _ _ (la + 1 + 1 + 1) (by omega) (by omega) (ST_l (ST_l (ST_l hsD)))) (fun r9 μ9 hq => ?_)
          obtain ⟨q1, s', ρ', q2, q3, q4, q5, q6⟩ := hq
          refine ⟨q1, s', ρ', _, q2, q3, sEP_t (sEP_t ksC (sEP_t (sEP_u (by decide) (by decide)) (sEP_t (sEP_u (by decide) (by decide)) (sEP_u (by decide) (by decide))))) q4, fun i hi => by rw [q5 i (by omega), upd_no (by omega), upd_no (by omega), upd_no (by omega)], fun _ => ⟨?_, ?_⟩, by omega⟩
          · show la + 1 + 1 + 1 + (ntC tc 201 j) = la + ((if tc ((j + ntC tc 201 j) + 1) < 21 then 1 else 3) + wl (nts (ntC tc 201 j)))
            rw [wl_nts, if_neg (by omega)]
            omega
          · show sgM ρ' la ((tc ((j + ntC tc 201 j) + 1), tc (j + ntC tc 201 j), tc ((j + ntC tc 201 j) + 2)) :: nts (ntC tc 201 j)) (la + 1 + 1 + 1 + (ntC tc 201 j))
            unfold sgM
            rw [if_neg (by omega), if_neg (by omega), if_neg (by omega)]
            refine ⟨?_, ?_, ?_, q6⟩
            · rw [q5 _ (by omega), upd_no (by omega), upd_no (by omega), upd_at, val, mvl, if_neg (by omega)]
            · rw [q5 _ (by omega), upd_no (by omega), show 118 + la + 1 = 118 + (la + 1) by omega, upd_at]
              exact vleft
            · rw [q5 _ (by omega), show 118 + la + 2 = 118 + (la + 1 + 1) by omega, upd_at]
              exact vright
      · refine z_iconst (v := nI 1) (by decide) (pc' := 123) 61 rfl rfl ?_
        refine z_goto 62 rfl (tgt := 127) rfl ?_
        refine z_putf (pc' := 130) 64 rfl rfl f_Mo_162_12 (by first | exact pm_f | exact pm_1 | (rw [pm_o (by decide)]; assumption)) rfl rfl (by rfl) (by rfl) ?_
        rw [if_neg h119] at y116a
        dsimp only [List.set]
        rw [mob_10, pm_s0, show nI 1 = bI true from rfl]
        obtain ⟨sA, esA⟩ : ∃ x, x = un s116 10 (bI true) := ⟨_, rfl⟩
        rw [← esA]
        have hsA : ST tc tp te sA ((j + ntC tc 201 j) + 1) true (3 - L) la := by rw [esA]; exact ST_b y116a
        have ksA : sEP s sA := by rw [esA]; exact sEP_t (sEP_t z96 y116b) (sEP_u (by decide) (by decide))
        refine z_al0 (pc' := 131) 65 rfl rfl ?_
        refine z_callV (pc' := 134) 66 rfl rfl k_Mo_181 (by first | exact pm_f | exact pm_1 | (rw [pm_o (by decide)]; assumption)) (c_Mo_side hT hrd hsA (by omega)) (by omega) (Nat.le_refl _) (Nat.le_refl _) rfl rfl (Nat.le_of_ble_eq_true rfl) (fun r131 μ131 h131 => ?_)
        obtain ⟨v131, y0, s131, y1, y131a, y131c, y131b⟩ := h131
        subst y0; subst y1
        dsimp only [Option.toList_some, List.cons_append, List.nil_append]
        have ksC : sEP s s131 := sEP_t ksA y131b
        have hsC : ST tc tp te s131 ((j + ntC tc 201 j) + 1) true (3 - L) la := y131a
        refine z_is4 rfl rfl (pc' := 136) 67 rfl rfl ?_
        refine z_al0 (pc' := 137) 68 rfl rfl ?_
        refine z_getf (pc' := 140) 69 rfl rfl f_Mo_162_12 (by first | exact pm_f | exact pm_1 | (rw [pm_o (by decide)]; assumption)) (by rfl) ?_
        rw [hsC.2.1]
        refine z_if_ne_t 70 rfl (tgt := 159) rfl (by decide) ?_
        refine z_iconst (v := nI 0) (by decide) (pc' := 160) 80 rfl rfl ?_
        refine z_is2 rfl rfl (pc' := 161) 81 rfl rfl ?_
        rw [show cmpR tc (j + ntC tc 201 j) (ntC tc 201 j) = fl9 ((j + ntC tc 201 j) + 1) by rw [cmpR, if_pos o1, if_neg (fun z => h119 ⟨rfl, (mtk_sg (hT.2.2 _)).mpr z⟩)]]
        exact zW_to (l_Mo_tailB (by omega) hsC) ⟨rfl, s131, ρ, la, rfl, hsC, ksC, fun _ _ => rfl, fun q => absurd q nf9, by omega⟩
  · refine z_al0 (pc' := 27) 12 rfl rfl ?_
    refine z_getf (pc' := 30) 13 rfl rfl f_Mo_175_12 (by first | exact pm_f | exact pm_1 | (rw [pm_o (by decide)]; assumption)) (by rfl) ?_
    rw [hS1.2.2.1]
    refine z_iconst (v := nI 3) (by decide) (pc' := 31) 14 rfl rfl ?_
    first | refine z_icmp_geN (pc' := 34) 15 rfl rfl (tgt := 95) rfl (by omega) (by omega) (fun h31 => ?_) (fun h31 => ?_) | refine z_icmp_ge (pc' := 34) 15 rfl rfl (tgt := 95) rfl (fun h31 => ?_) (fun h31 => ?_)
    · rw [if_neg (fun z => by omega)] at hp
      cases hp
      obtain ⟨⟨g1, g2⟩, g3⟩ := cmp_pg (j := j) (k := (ntC tc 201 j)) hT (by omega)
      refine z_al0 (pc' := 96) 47 rfl rfl ?_
      refine z_callV (pc' := 99) 48 rfl rfl k_Mo_181 (by first | exact pm_f | exact pm_1 | (rw [pm_o (by decide)]; assumption)) (c_Mo_side hT hrd hS1 hJ) (by omega) (Nat.le_refl _) (Nat.le_refl _) rfl rfl (Nat.le_of_ble_eq_true rfl) (fun r96 μ96 h96 => ?_)
      obtain ⟨v96, y0, s96, y1, y96a, y96c, y96b⟩ := h96
      subst y0; subst y1
      dsimp only [Option.toList_some, List.cons_append, List.nil_append]
      have z96 : sEP s s96 := sEP_t kS1 y96b
      refine z_is2 rfl rfl (pc' := 100) 49 rfl rfl ?_
      refine z_al0 (pc' := 101) 50 rfl rfl ?_
      refine z_getf (pc' := 104) 51 rfl rfl f_Mo_149_12 (by first | exact pm_f | exact pm_1 | (rw [pm_o (by decide)]; assumption)) (by rfl) ?_
      refine z_is3 rfl rfl (pc' := 105) 52 rfl rfl ?_
      refine z_al0 (pc' := 106) 53 rfl rfl ?_
      refine z_al0 (pc' := 107) 54 rfl rfl ?_
      refine z_getf (pc' := 110) 55 rfl rfl f_Mo_162_12 (by first | exact pm_f | exact pm_1 | (rw [pm_o (by decide)]; assumption)) (by rfl) ?_
      rw [y96a.2.1]
      first | refine z_if_neB (pc' := 113) 56 rfl rfl (tgt := 122) rfl (fun h110 => ?_) (fun h110 => ?_) | refine z_if_neN (pc' := 113) 56 rfl rfl (tgt := 122) rfl (by omega) (fun h110 => ?_) (fun h110 => ?_) | refine z_if_ne (pc' := 113) 56 rfl rfl (tgt := 122) rfl (fun h110 => ?_) (fun h110 => ?_)
      · refine z_iconst (v := nI 1) (by decide) (pc' := 123) 61 rfl rfl ?_
        refine z_goto 62 rfl (tgt := 127) rfl ?_
        refine z_putf (pc' := 130) 64 rfl rfl f_Mo_162_12 (by first | exact pm_f | exact pm_1 | (rw [pm_o (by decide)]; assumption)) rfl rfl (by rfl) (by rfl) ?_
        rw [if_pos h110, h110] at y96a
        dsimp only [List.set]
        rw [mob_10, pm_s0, show nI 1 = bI true from rfl]
        obtain ⟨sA, esA⟩ : ∃ x, x = un s96 10 (bI true) := ⟨_, rfl⟩
        rw [← esA]
        have hsA : ST tc tp te sA (j + ntC tc 201 j) true (3 - L) la := by rw [esA]; exact ST_b y96a
        have ksA : sEP s sA := by rw [esA]; exact sEP_t z96 (sEP_u (by decide) (by decide))
        refine z_al0 (pc' := 131) 65 rfl rfl ?_
        refine z_callV (pc' := 134) 66 rfl rfl k_Mo_181 (by first | exact pm_f | exact pm_1 | (rw [pm_o (by decide)]; assumption)) (c_Mo_side hT hrd hsA (by omega)) (by omega) (Nat.le_refl _) (Nat.le_refl _) rfl rfl (Nat.le_of_ble_eq_true rfl) (fun r131 μ131 h131 => ?_)
        obtain ⟨v131, y0, s131, y1, y131a, y131c, y131b⟩ := h131
        subst y0; subst y1
        dsimp only [Option.toList_some, List.cons_append, List.nil_append]
        have ksC : sEP s s131 := sEP_t ksA y131b
        have hsC : ST tc tp te s131 (j + ntC tc 201 j) true (3 - L) la := y131a
        refine z_is4 rfl rfl (pc' := 136) 67 rfl rfl ?_
        refine z_al0 (pc' := 137) 68 rfl rfl ?_
        refine z_getf (pc' := 140) 69 rfl rfl f_Mo_162_12 (by first | exact pm_f | exact pm_1 | (rw [pm_o (by decide)]; assumption)) (by rfl) ?_
        rw [hsC.2.1]
        refine z_if_ne_t 70 rfl (tgt := 159) rfl (by decide) ?_
        refine z_iconst (v := nI 0) (by decide) (pc' := 160) 80 rfl rfl ?_
        refine z_is2 rfl rfl (pc' := 161) 81 rfl rfl ?_
        rw [show cmpR tc (j + ntC tc 201 j) (ntC tc 201 j) = fl9 (j + ntC tc 201 j) from if_neg (fun z => by rw [z] at h110; exact absurd h110 (by decide))]
        exact zW_to (l_Mo_tailB (by omega) hsC) ⟨rfl, s131, ρ, la, rfl, hsC, ksC, fun _ _ => rfl, fun q => absurd q nf9, by omega⟩
      · have f96 := eq_false_of_ne_true h110
        rw [if_neg h110] at y96a
        rw [f96] at y96a
        have o1 : opB (tc (j + ntC tc 201 j)) = true := Classical.byContradiction (fun z => h110 (by rw [eq_false_of_ne_true z]; rfl))
        have vleft := y96c f96
        have a1 : (j + ntC tc 201 j) ≠ N := fun z => by rw [z, hT.2.1] at o1; exact absurd o1 (by decide)
        refine z_al0 (pc' := 114) 57 rfl rfl ?_
        refine z_bipush (v := nI 21) (by decide) (pc' := 116) 58 rfl rfl ?_
        refine z_callV (pc' := 119) 59 rfl rfl k_Mo_172 (by first | exact pm_f | exact pm_1 | (rw [pm_o (by decide)]; assumption)) (c_Mo_passes hT hrd y96a (by omega) (by decide)) (by omega) (Nat.le_refl _) (Nat.le_refl _) rfl rfl (Nat.le_of_ble_eq_true rfl) (fun r116 μ116 h116 => ?_)
        obtain ⟨y0, s116, y1, y116a, y116b⟩ := h116
        subst y0; subst y1
        dsimp only [Option.toList_some, List.cons_append, List.nil_append]
        first | refine z_if_neB (pc' := 122) 60 rfl rfl (tgt := 126) rfl (fun h119 => ?_) (fun h119 => ?_) | refine z_if_neN (pc' := 122) 60 rfl rfl (tgt := 126) rfl (by omega) (fun h119 => ?_) (fun h119 => ?_) | refine z_if_ne (pc' := 122) 60 rfl rfl (tgt := 126) rfl (fun h119 => ?_) (fun h119 => ?_)
        · have o2 : sgB (tc ((j + ntC tc 201 j) + 1)) = true := (mtk_sg (hT.2.2 _)).mp h119.2
          have val : s96 9 = _ := y96a.1.2.1 (Or.inr o2)
          have a2 : (j + ntC tc 201 j) + 1 ≠ N := fun z => by rw [z, hT.2.1] at o2; exact absurd o2 (by decide)
          refine z_iconst (v := nI 0) (by decide) (pc' := 127) 63 rfl rfl ?_
          refine z_putf (pc' := 130) 64 rfl rfl f_Mo_162_12 (by first | exact pm_f | exact pm_1 | (rw [pm_o (by decide)]; assumption)) rfl rfl (by rfl) (by rfl) ?_
          rw [if_pos h119] at y116a
          dsimp only [List.set]
          rw [mob_10, pm_s0, show nI 0 = bI false from rfl]
          obtain ⟨sA, esA⟩ : ∃ x, x = un s116 10 (bI false) := ⟨_, rfl⟩
          rw [← esA]
          have hsA : ST tc tp te sA ((j + ntC tc 201 j) + 1 + 1) false (3 - L) la := by rw [esA]; exact ST_b y116a
          have ksA : sEP s sA := by rw [esA]; exact sEP_t (sEP_t z96 y116b) (sEP_u (by decide) (by decide))
          refine z_al0 (pc' := 131) 65 rfl rfl ?_
          refine z_callV (pc' := 134) 66 rfl rfl k_Mo_181 (by first | exact pm_f | exact pm_1 | (rw [pm_o (by decide)]; assumption)) (c_Mo_side hT hrd hsA (by omega)) (by omega) (Nat.le_refl _) (Nat.le_refl _) rfl rfl (Nat.le_of_ble_eq_true rfl) (fun r131 μ131 h131 => ?_)
          obtain ⟨v131, y0, s131, y1, y131a, y131c, y131b⟩ := h131
          subst y0; subst y1
          dsimp only [Option.toList_some, List.cons_append, List.nil_append]
          have ksC : sEP s s131 := sEP_t ksA y131b
          refine z_is4 rfl rfl (pc' := 136) 67 rfl rfl ?_
          refine z_al0 (pc' := 137) 68 rfl rfl ?_
          refine z_getf (pc' := 140) 69 rfl rfl f_Mo_162_12 (by first | exact pm_f | exact pm_1 | (rw [pm_o (by decide)]; assumption)) (by rfl) ?_
          rw [y131a.2.1]
          first | refine z_if_neB (pc' := 143) 70 rfl rfl (tgt := 159) rfl (fun h140 => ?_) (fun h140 => ?_) | refine z_if_neN (pc' := 143) 70 rfl rfl (tgt := 159) rfl (by omega) (fun h140 => ?_) (fun h140 => ?_) | refine z_if_ne (pc' := 143) 70 rfl rfl (tgt := 159) rfl (fun h140 => ?_) (fun h140 => ?_)
          · refine z_iconst (v := nI 0) (by decide) (pc' := 160) 80 rfl rfl ?_
            refine z_is2 rfl rfl (pc' := 161) 81 rfl rfl ?_
            rw [if_pos h140, h140] at y131a
            rw [show cmpR tc (j + ntC tc 201 j) (ntC tc 201 j) = fl9 ((j + ntC tc 201 j) + 2) by rw [cmpR, if_pos o1, if_pos o2, if_neg (fun z => by rw [z] at h140; exact absurd h140 (by decide))]]
            exact zW_to (l_Mo_tailB (by omega) y131a) ⟨rfl, s131, ρ, la, rfl, y131a, ksC, fun _ _ => rfl, fun q => absurd q nf9, by omega⟩
          · have f131 := eq_false_of_ne_true h140
            rw [if_neg h140] at y131a
            rw [f131] at y131a
            have hsD := y131a
            have vright := y131c f131
            have o3 : opB (tc ((j + ntC tc 201 j) + 2)) = true := Classical.byContradiction (fun z => h140 (by rw [show (j + ntC tc 201 j) + 1 + 1 = (j + ntC tc 201 j) + 2 from rfl, eq_false_of_ne_true z]; rfl))
            have a3 : (j + ntC tc 201 j) + 2 ≠ N := fun z => by rw [z, hT.2.1] at o3; exact absurd o3 (by decide)
            refine z_al0 (pc' := 144) 71 rfl rfl ?_
            refine z_il3 (pc' := 145) 72 rfl rfl ?_
            refine z_callV0 (pc' := 148) 73 rfl rfl k_Mo_184 (by first | exact pm_f | exact pm_1 | (rw [pm_o (by decide)]; assumption)) (c_Mo_step hsD (by omega)) (by omega) (Nat.le_refl _) (Nat.le_refl _) rfl rfl (Nat.le_of_ble_eq_true rfl) ?_
            refine z_al0 (pc' := 149) 74 rfl rfl ?_
            refine z_il2 (pc' := 150) 75 rfl rfl ?_
            refine z_callV0 (pc' := 153) 76 rfl rfl k_Mo_184 (by first | exact pm_f | exact pm_1 | (rw [pm_o (by decide)]; assumption)) (c_Mo_step (ST_l (la' := la + 1) hsD) (by omega)) (by omega) (Nat.le_refl _) (Nat.le_refl _) rfl rfl (Nat.le_of_ble_eq_true rfl) ?_
            refine z_al0 (pc' := 154) 77 rfl rfl ?_
            refine z_il4 (pc' := 156) 78 rfl rfl ?_
            refine z_callV0 (pc' := 159) 79 rfl rfl k_Mo_184 (by first | exact pm_f | exact pm_1 | (rw [pm_o (by decide)]; assumption)) (c_Mo_step (ST_l (la' := la + 1 + 1) (ST_l (la' := la + 1) hsD)) (by omega)) (by omega) (Nat.le_refl _) (Nat.le_refl _) rfl rfl (Nat.le_of_ble_eq_true rfl) ?_
            refine z_iconst (v := nI 0) (by decide) (pc' := 160) 80 rfl rfl ?_
            refine z_is2 rfl rfl (pc' := 161) 81 rfl rfl ?_
            have g0 : cmpR tc (j + ntC tc 201 j) (ntC tc 201 j) = ((j + ntC tc 201 j) + 3, true, (tc ((j + ntC tc 201 j) + 1), tc (j + ntC tc 201 j), tc ((j + ntC tc 201 j) + 2)) :: nts ((ntC tc 201 j) % 2), (tc ((j + ntC tc 201 j) + 1), tc (j + ntC tc 201 j), tc ((j + ntC tc 201 j) + 2)) :: nts (ntC tc 201 j)) := by rw [cmpR, if_pos o1, if_pos o2, if_pos o3]
            have s21 := sgB_t.mp o2
            rw [g0]
            rw [g0] at g1 g2
            have g1 : (j + ntC tc 201 j) + 3 ≤ N := g1
            refine zW_im (l_Mo_tail (by omega) (by omega) (ntC tc 201 j) 0 _ _ (la + 1 + 1 + 1) (by omega) (by omega) (ST_l (ST_l (ST_l hsD)))) (fun r9 μ9 hq => ?_)
            obtain ⟨q1, s', ρ', q2, q3, q4, q5, q6⟩ := hq
            refine ⟨q1, s', ρ', _, q2, q3, sEP_t (sEP_t ksC (sEP_t (sEP_u (by decide) (by decide)) (sEP_t (sEP_u (by decide) (by decide)) (sEP_u (by decide) (by decide))))) q4, fun i hi => by rw [q5 i (by omega), upd_no (by omega), upd_no (by omega), upd_no (by omega)], fun _ => ⟨?_, ?_⟩, by omega⟩
            · show la + 1 + 1 + 1 + (ntC tc 201 j) = la + ((if tc ((j + ntC tc 201 j) + 1) < 21 then 1 else 3) + wl (nts (ntC tc 201 j)))
              rw [wl_nts, if_neg (by omega)]
              omega
            · show sgM ρ' la ((tc ((j + ntC tc 201 j) + 1), tc (j + ntC tc 201 j), tc ((j + ntC tc 201 j) + 2)) :: nts (ntC tc 201 j)) (la + 1 + 1 + 1 + (ntC tc 201 j))
              unfold sgM
              rw [if_neg (by omega), if_neg (by omega), if_neg (by omega)]
              refine ⟨?_, ?_, ?_, q6⟩
              · rw [q5 _ (by omega), upd_no (by omega), upd_no (by omega), upd_at, val, mvl, if_neg (by omega)]
              · rw [q5 _ (by omega), upd_no (by omega), show 118 + la + 1 = 118 + (la + 1) by omega, upd_at]
                exact vleft
              · rw [q5 _ (by omega), show 118 + la + 2 = 118 + (la + 1 + 1) by omega, upd_at]
                exact vright
        · refine z_iconst (v := nI 1) (by decide) (pc' := 123) 61 rfl rfl ?_
          refine z_goto 62 rfl (tgt := 127) rfl ?_
          refine z_putf (pc' := 130) 64 rfl rfl f_Mo_162_12 (by first | exact pm_f | exact pm_1 | (rw [pm_o (by decide)]; assumption)) rfl rfl (by rfl) (by rfl) ?_
          rw [if_neg h119] at y116a
          dsimp only [List.set]
          rw [mob_10, pm_s0, show nI 1 = bI true from rfl]
          obtain ⟨sA, esA⟩ : ∃ x, x = un s116 10 (bI true) := ⟨_, rfl⟩
          rw [← esA]
          have hsA : ST tc tp te sA ((j + ntC tc 201 j) + 1) true (3 - L) la := by rw [esA]; exact ST_b y116a
          have ksA : sEP s sA := by rw [esA]; exact sEP_t (sEP_t z96 y116b) (sEP_u (by decide) (by decide))
          refine z_al0 (pc' := 131) 65 rfl rfl ?_
          refine z_callV (pc' := 134) 66 rfl rfl k_Mo_181 (by first | exact pm_f | exact pm_1 | (rw [pm_o (by decide)]; assumption)) (c_Mo_side hT hrd hsA (by omega)) (by omega) (Nat.le_refl _) (Nat.le_refl _) rfl rfl (Nat.le_of_ble_eq_true rfl) (fun r131 μ131 h131 => ?_)
          obtain ⟨v131, y0, s131, y1, y131a, y131c, y131b⟩ := h131
          subst y0; subst y1
          dsimp only [Option.toList_some, List.cons_append, List.nil_append]
          have ksC : sEP s s131 := sEP_t ksA y131b
          have hsC : ST tc tp te s131 ((j + ntC tc 201 j) + 1) true (3 - L) la := y131a
          refine z_is4 rfl rfl (pc' := 136) 67 rfl rfl ?_
          refine z_al0 (pc' := 137) 68 rfl rfl ?_
          refine z_getf (pc' := 140) 69 rfl rfl f_Mo_162_12 (by first | exact pm_f | exact pm_1 | (rw [pm_o (by decide)]; assumption)) (by rfl) ?_
          rw [hsC.2.1]
          refine z_if_ne_t 70 rfl (tgt := 159) rfl (by decide) ?_
          refine z_iconst (v := nI 0) (by decide) (pc' := 160) 80 rfl rfl ?_
          refine z_is2 rfl rfl (pc' := 161) 81 rfl rfl ?_
          rw [show cmpR tc (j + ntC tc 201 j) (ntC tc 201 j) = fl9 ((j + ntC tc 201 j) + 1) by rw [cmpR, if_pos o1, if_neg (fun z => h119 ⟨rfl, (mtk_sg (hT.2.2 _)).mpr z⟩)]]
          exact zW_to (l_Mo_tailB (by omega) hsC) ⟨rfl, s131, ρ, la, rfl, hsC, ksC, fun _ _ => rfl, fun q => absurd q nf9, by omega⟩
    · refine z_al0 (pc' := 35) 16 rfl rfl ?_
      refine z_bipush (v := nI 22) (by decide) (pc' := 37) 17 rfl rfl ?_
      refine z_callV (pc' := 40) 18 rfl rfl k_Mo_172 (by first | exact pm_f | exact pm_1 | (rw [pm_o (by decide)]; assumption)) (c_Mo_passes hT hrd hS1 hJ (by decide)) (by omega) (Nat.le_refl _) (Nat.le_refl _) rfl rfl (Nat.le_of_ble_eq_true rfl) (fun r37 μ37 h37 => ?_)
      obtain ⟨y0, s37, y1, y37a, y37b⟩ := h37
      subst y0; subst y1
      dsimp only [Option.toList_some, List.cons_append, List.nil_append]
      rw [if_pos ⟨rfl, h23⟩] at y37a
      rw [zbo_t (show false = false ∧ mtk (tc (j + ntC tc 201 j)) = 22 from ⟨rfl, h23⟩)]
      refine z_if_eq_f (pc' := 43) 19 rfl rfl (tgt := 95) rfl (by decide) ?_
      refine z_al0 (pc' := 44) 20 rfl rfl ?_
      refine z_dup rfl (pc' := 45) 21 rfl rfl ?_
      refine z_getf (pc' := 48) 22 rfl rfl f_Mo_175_12 (by first | exact pm_f | exact pm_1 | (rw [pm_o (by decide)]; assumption)) (by rfl) ?_
      rw [y37a.2.2.1]
      refine z_iconst (v := nI 1) (by decide) (pc' := 49) 23 rfl rfl ?_
      first | refine z_iaddN (pc' := 50) 24 rfl rfl ?_ | refine z_iadd (pc' := 50) 24 rfl rfl ?_
      refine z_putf (pc' := 53) 25 rfl rfl f_Mo_175_12 (by first | exact pm_f | exact pm_1 | (rw [pm_o (by decide)]; assumption)) rfl rfl (by rfl) (by rfl) ?_
      dsimp only [List.set]
      rw [mob_11, pm_s0, show 3 - L + 1 = 3 - (L - 1) by omega]
      have c19 := (mtk_19 (hT.2.2 _)).mp h23
      have hne : (j + ntC tc 201 j) ≠ N := fun z => by rw [z, hT.2.1] at c19; cases c19
      rw [if_pos ⟨c19, by omega⟩] at hp
      obtain ⟨r, h1, h2⟩ := Option.bind_eq_some_iff.mp hp
      cases h2
      obtain ⟨⟨g1, g2⟩, g3⟩ := (pP_pg hT F 3 _ _ _ _ r (by decide) (by omega) h1).1 (by decide)
      refine z_al0 (pc' := 54) 26 rfl rfl ?_
      refine z_callV (pc' := 57) 27 rfl rfl k_Mo_178 (by first | exact pm_f | exact pm_1 | (rw [pm_o (by decide)]; assumption)) (ihc (by omega) F _ _ _ _ r (by omega) (by omega) (ST_o y37a) h1) (by omega) (Nat.le_refl _) (Nat.le_refl _) rfl rfl (Nat.le_of_ble_eq_true rfl) (fun r54 μ54 h54 => ?_)
      obtain ⟨y0, s54, ρ54, l54, y1, y54a, y54b, w54, v54, b54⟩ := h54
      subst y0; subst y1
      dsimp only [Option.toList_none, List.nil_append]
      have z54 : sEP s s54 := sEP_t kS1 (sEP_t (sEP_t y37b (sEP_u (by decide) (by decide))) y54b)
      refine z_al0 (pc' := 58) 28 rfl rfl ?_
      refine z_al0 (pc' := 59) 29 rfl rfl ?_
      refine z_getf (pc' := 62) 30 rfl rfl f_Mo_162_12 (by first | exact pm_f | exact pm_1 | (rw [pm_o (by decide)]; assumption)) (by rfl) ?_
      rw [y54a.2.1]
      first | refine z_if_neB (pc' := 65) 31 rfl rfl (tgt := 74) rfl (fun h62 => ?_) (fun h62 => ?_) | refine z_if_neN (pc' := 65) 31 rfl rfl (tgt := 74) rfl (by omega) (fun h62 => ?_) (fun h62 => ?_) | refine z_if_ne (pc' := 65) 31 rfl rfl (tgt := 74) rfl (fun h62 => ?_) (fun h62 => ?_)
      · have nr : ¬ r.2.1 = true := fun z => by rw [z] at h62; exact absurd h62 (by decide)
        refine z_iconst (v := nI 1) (by decide) (pc' := 75) 36 rfl rfl ?_
        refine z_goto 37 rfl (tgt := 79) rfl ?_
        refine z_putf (pc' := 82) 39 rfl rfl f_Mo_162_12 (by first | exact pm_f | exact pm_1 | (rw [pm_o (by decide)]; assumption)) rfl rfl (by rfl) (by rfl) ?_
        dsimp only [List.set]
        rw [mob_10, pm_s0, show nI 1 = bI true from rfl]
        obtain ⟨sA, esA⟩ : ∃ x, x = un s54 10 (bI true) := ⟨_, rfl⟩
        rw [← esA]
        have hsA : ST tc tp te sA r.1 true (3 - (L - 1)) l54 := by rw [esA]; exact ST_b y54a
        have ksA : sEP s sA := by rw [esA]; exact sEP_t z54 (sEP_u (by decide) (by decide))
        refine z_al0 (pc' := 83) 40 rfl rfl ?_
        refine z_dup rfl (pc' := 84) 41 rfl rfl ?_
        refine z_getf (pc' := 87) 42 rfl rfl f_Mo_175_12 (by first | exact pm_f | exact pm_1 | (rw [pm_o (by decide)]; assumption)) (by rfl) ?_
        rw [hsA.2.2.1]
        refine z_iconst (v := nI 1) (by decide) (pc' := 88) 43 rfl rfl ?_
        first | refine z_isubN (by omega) (pc' := 89) 44 rfl rfl ?_ | refine z_isub (pc' := 89) 44 rfl rfl ?_
        refine z_putf (pc' := 92) 45 rfl rfl f_Mo_175_12 (by first | exact pm_f | exact pm_1 | (rw [pm_o (by decide)]; assumption)) rfl rfl (by rfl) (by rfl) ?_
        dsimp only [List.set]
        rw [mob_11, pm_s0, show 3 - (L - 1) - 1 = 3 - L by omega]
        obtain ⟨sB, esB⟩ : ∃ x, x = un sA 11 (nI (3 - L)) := ⟨_, rfl⟩
        rw [← esB]
        have hsB : ST tc tp te sB r.1 true (3 - L) l54 := by rw [esB]; exact ST_o hsA
        have ksB : sEP s sB := by rw [esB]; exact sEP_t ksA (sEP_u (by decide) (by decide))
        refine z_goto 46 rfl (tgt := 159) rfl ?_
        refine z_iconst (v := nI 0) (by decide) (pc' := 160) 80 rfl rfl ?_
        refine z_is2 rfl rfl (pc' := 161) 81 rfl rfl ?_
        rw [show opR tc (ntC tc 201 j) r = fl9 r.1 from if_neg nr]
        exact zW_to (l_Mo_tailB (by omega) hsB) ⟨rfl, sB, ρ54, l54, rfl, hsB, ksB, w54, fun q => absurd q nf9, by omega⟩
      · have rr : r.2.1 = true := Classical.byContradiction (fun z => h62 (by rw [eq_false_of_ne_true z]; rfl))
        refine z_al0 (pc' := 66) 32 rfl rfl ?_
        refine z_bipush (v := nI 23) (by decide) (pc' := 68) 33 rfl rfl ?_
        refine z_callV (pc' := 71) 34 rfl rfl k_Mo_172 (by first | exact pm_f | exact pm_1 | (rw [pm_o (by decide)]; assumption)) (c_Mo_passes hT hrd y54a g1 (by decide)) (by omega) (Nat.le_refl _) (Nat.le_refl _) rfl rfl (Nat.le_of_ble_eq_true rfl) (fun r68 μ68 h68 => ?_)
        obtain ⟨y0, s68, y1, y68a, y68b⟩ := h68
        subst y0; subst y1
        dsimp only [Option.toList_some, List.cons_append, List.nil_append]
        first | refine z_if_neB (pc' := 74) 35 rfl rfl (tgt := 78) rfl (fun h71 => ?_) (fun h71 => ?_) | refine z_if_neN (pc' := 74) 35 rfl rfl (tgt := 78) rfl (by omega) (fun h71 => ?_) (fun h71 => ?_) | refine z_if_ne (pc' := 74) 35 rfl rfl (tgt := 78) rfl (fun h71 => ?_) (fun h71 => ?_)
        · refine z_iconst (v := nI 0) (by decide) (pc' := 79) 38 rfl rfl ?_
          refine z_putf (pc' := 82) 39 rfl rfl f_Mo_162_12 (by first | exact pm_f | exact pm_1 | (rw [pm_o (by decide)]; assumption)) rfl rfl (by rfl) (by rfl) ?_
          rw [if_pos h71] at y68a
          dsimp only [List.set]
          rw [mob_10, pm_s0, show nI 0 = bI false from rfl]
          obtain ⟨sA, esA⟩ : ∃ x, x = un s68 10 (bI false) := ⟨_, rfl⟩
          rw [← esA]
          have hsA : ST tc tp te sA (r.1 + 1) false (3 - (L - 1)) l54 := by rw [esA]; exact ST_b y68a
          have ksA : sEP s sA := by rw [esA]; exact sEP_t (sEP_t z54 y68b) (sEP_u (by decide) (by decide))
          refine z_al0 (pc' := 83) 40 rfl rfl ?_
          refine z_dup rfl (pc' := 84) 41 rfl rfl ?_
          refine z_getf (pc' := 87) 42 rfl rfl f_Mo_175_12 (by first | exact pm_f | exact pm_1 | (rw [pm_o (by decide)]; assumption)) (by rfl) ?_
          rw [hsA.2.2.1]
          refine z_iconst (v := nI 1) (by decide) (pc' := 88) 43 rfl rfl ?_
          first | refine z_isubN (by omega) (pc' := 89) 44 rfl rfl ?_ | refine z_isub (pc' := 89) 44 rfl rfl ?_
          refine z_putf (pc' := 92) 45 rfl rfl f_Mo_175_12 (by first | exact pm_f | exact pm_1 | (rw [pm_o (by decide)]; assumption)) rfl rfl (by rfl) (by rfl) ?_
          dsimp only [List.set]
          rw [mob_11, pm_s0, show 3 - (L - 1) - 1 = 3 - L by omega]
          obtain ⟨sB, esB⟩ : ∃ x, x = un sA 11 (nI (3 - L)) := ⟨_, rfl⟩
          rw [← esB]
          have hsB : ST tc tp te sB (r.1 + 1) false (3 - L) l54 := by rw [esB]; exact ST_o hsA
          have ksB : sEP s sB := by rw [esB]; exact sEP_t ksA (sEP_u (by decide) (by decide))
          refine z_goto 46 rfl (tgt := 159) rfl ?_
          refine z_iconst (v := nI 0) (by decide) (pc' := 160) 80 rfl rfl ?_
          refine z_is2 rfl rfl (pc' := 161) 81 rfl rfl ?_
          have c20 := (mtk_20 (hT.2.2 r.1)).mp h71.2
          rw [show opR tc (ntC tc 201 j) r = (r.1 + 1, true, r.2.2.1 ++ nts ((ntC tc 201 j) % 2), r.2.2.2 ++ nts (ntC tc 201 j)) by rw [opR, if_pos rr, if_pos c20]]
          have g2 := g2 rr
          have v54 := v54 rr
          refine zW_im (l_Mo_tail (by omega) (by omega) (ntC tc 201 j) 0 sB ρ54 l54 (by omega) (by omega) hsB) (fun r9 μ9 hq => ?_)
          obtain ⟨q1, s', ρ', q2, q3, q4, q5, q6⟩ := hq
          refine ⟨q1, s', ρ', _, q2, q3, sEP_t ksB q4, fun i hi => by rw [q5 i (by omega)]; exact w54 i hi, fun _ => ⟨?_, ?_⟩, by omega⟩
          · show l54 + (ntC tc 201 j) = la + wl (r.2.2.2 ++ nts (ntC tc 201 j))
            rw [wl_app, wl_nts]
            omega
          · exact sgM_app q6 _ _ (sgM_ext _ _ _ (fun i hi => q5 i hi) v54.2)
        · skip
          refine z_iconst (v := nI 1) (by decide) (pc' := 75) 36 rfl rfl ?_
          refine z_goto 37 rfl (tgt := 79) rfl ?_
          refine z_putf (pc' := 82) 39 rfl rfl f_Mo_162_12 (by first | exact pm_f | exact pm_1 | (rw [pm_o (by decide)]; assumption)) rfl rfl (by rfl) (by rfl) ?_
          rw [if_neg h71] at y68a
          dsimp only [List.set]
          rw [mob_10, pm_s0, show nI 1 = bI true from rfl]
          obtain ⟨sA, esA⟩ : ∃ x, x = un s68 10 (bI true) := ⟨_, rfl⟩
          rw [← esA]
          have hsA : ST tc tp te sA r.1 true (3 - (L - 1)) l54 := by rw [esA]; exact ST_b y68a
          have ksA : sEP s sA := by rw [esA]; exact sEP_t (sEP_t z54 y68b) (sEP_u (by decide) (by decide))
          refine z_al0 (pc' := 83) 40 rfl rfl ?_
          refine z_dup rfl (pc' := 84) 41 rfl rfl ?_
          refine z_getf (pc' := 87) 42 rfl rfl f_Mo_175_12 (by first | exact pm_f | exact pm_1 | (rw [pm_o (by decide)]; assumption)) (by rfl) ?_
          rw [hsA.2.2.1]
          refine z_iconst (v := nI 1) (by decide) (pc' := 88) 43 rfl rfl ?_
          first | refine z_isubN (by omega) (pc' := 89) 44 rfl rfl ?_ | refine z_isub (pc' := 89) 44 rfl rfl ?_
          refine z_putf (pc' := 92) 45 rfl rfl f_Mo_175_12 (by first | exact pm_f | exact pm_1 | (rw [pm_o (by decide)]; assumption)) rfl rfl (by rfl) (by rfl) ?_
          dsimp only [List.set]
          rw [mob_11, pm_s0, show 3 - (L - 1) - 1 = 3 - L by omega]
          obtain ⟨sB, esB⟩ : ∃ x, x = un sA 11 (nI (3 - L)) := ⟨_, rfl⟩
          rw [← esB]
          have hsB : ST tc tp te sB r.1 true (3 - L) l54 := by rw [esB]; exact ST_o hsA
          have ksB : sEP s sB := by rw [esB]; exact sEP_t ksA (sEP_u (by decide) (by decide))
          refine z_goto 46 rfl (tgt := 159) rfl ?_
          refine z_iconst (v := nI 0) (by decide) (pc' := 160) 80 rfl rfl ?_
          refine z_is2 rfl rfl (pc' := 161) 81 rfl rfl ?_
          rw [show opR tc (ntC tc 201 j) r = fl9 r.1 by rw [opR, if_pos rr, if_neg (fun z => h71 ⟨by rw [rr]; rfl, (mtk_20 (hT.2.2 r.1)).mpr z⟩)]]
          exact zW_to (l_Mo_tailB (by omega) hsB) ⟨rfl, sB, ρ54, l54, rfl, hsB, ksB, w54, fun q => absurd q nf9, by omega⟩
