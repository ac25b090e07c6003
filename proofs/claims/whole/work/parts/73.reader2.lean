set_option maxHeartbeats 4000000 in
set_option maxRecDepth 100000 in
theorem c_Ta_readOne {G : zG} {n u : Nat} {ν : Nat → va_E} {ln : Nat} {c : Int32} {kd de bg : Nat → Int32} {tc : Nat → Nat} {N : Nat} (hT : iTk tc N) (h49 : ν 49 = .inl (0, 201, .inl (fun j => nI (tc j)))) {L : Nat} (hL : L ≤ 3) (ihc : 0 < L → ∀ F j z (c4 : Nat → Nat) R, j ≤ N → z ≤ j → pP tc F 3 (L - 1) j [] [] = some R → zMet G (4 + 2 * (L - 1)) M_Ta_readCondition [.ref 47, .ref 51, .int (nI (3 - (L - 1)))] n u (MT ν ln c kd de bg j z c4) n u (rdP ν ln c kd de bg z c4 R)) (F j z : Nat) (c4 : Nat → Nat) (R : zR9) (hj : j ≤ N) (hz : z ≤ j) (hp : pP tc F 0 L j [] [] = some R) : zMet G (3 + 2 * L) M_Ta_readOne [.ref 47, .ref 51, .int (nI (3 - L))] n u (MT ν ln c kd de bg j z c4) n u (rdP ν ln c kd de bg z c4 R) := by
  have hN := hT.1
  have hk := ntC_le hT 201 j hj
  have htb := (hT.2.2 (j + ntC tc 201 j)).1
  obtain ⟨F, rfl⟩ : ∃ F0, F = F0 + 1 := by
    cases F with
    | zero => cases hp
    | succ F => exact ⟨F, rfl⟩
  rw [pP_0] at hp
  refine z_start (lv := [.ref 47, .ref 51, .int (nI (3 - L)), .retAddr 0, .retAddr 0]) K_Ta_readOne rfl rfl (Nat.le_refl _) (Nat.le_refl _) (Nat.le_of_ble_eq_true rfl) rfl ?_
  refine z_iconst (v := nI 0) (by decide) (pc' := 1) 0 rfl rfl ?_
  refine z_is3 rfl rfl (pc' := 2) 1 rfl rfl ?_
  refine l_Ta_nots hT h49 201 j false hj (by omega) ?_
  refine z_al0 (pc' := 50) 26 rfl rfl ?_
  refine z_getf (pc' := 53) 27 rfl rfl f_Ta_15_9 (by first | exact MT_47 | exact MT_51 | exact MT_55 | (rw [MT_o (by decide)]; assumption)) (by rfl) ?_
  refine z_al0 (pc' := 54) 28 rfl rfl ?_
  refine z_getf (pc' := 57) 29 rfl rfl f_Ta_28_9 (by first | exact MT_47 | exact MT_51 | exact MT_55 | (rw [MT_o (by decide)]; assumption)) (by rfl) ?_
  refine z_iald (pc' := 58) 30 rfl rfl (by first | exact MT_47 | exact MT_51 | exact MT_55 | (rw [MT_o (by decide)]; assumption)) (by omega) (by decide) ?_
  refine z_bipush (v := nI 19) (by decide) (pc' := 60) 31 rfl rfl ?_
  first | refine z_icmp_neN (pc' := 63) 32 rfl rfl (tgt := 108) rfl (by omega) (by omega) (fun h60 => ?_) (fun h60 => ?_) | refine z_icmp_ne (pc' := 63) 32 rfl rfl (tgt := 108) rfl (fun h60 => ?_) (fun h60 => ?_)
  · rw [if_neg (fun z => h60 z.1)] at hp
    cases hp
    obtain ⟨⟨g1, g2⟩, g3⟩ := cmp_pg (j := (j + ntC tc 201 j)) (k := 0) hT (by omega)
    refine z_al0 (pc' := 109) 58 rfl rfl ?_
    refine z_al1 (pc' := 110) 59 rfl rfl ?_
    refine z_callV (pc' := 113) 60 rfl rfl k_Ta_97 (by first | exact MT_47 | exact MT_51 | exact MT_55 | (rw [MT_o (by decide)]; assumption)) (c_Ta_readComparison hT h49 (by omega) (by omega)) (by omega) (Nat.le_refl _) (Nat.le_refl _) rfl rfl (Nat.le_of_ble_eq_true rfl) (fun r110 μ110 h110 => ?_)
    obtain ⟨z9, c9, y0, y1, y2, y3⟩ := h110
    subst y0; subst y1
    dsimp only [Option.toList_some, List.cons_append, List.nil_append]
    refine z_is4 rfl rfl (pc' := 115) 61 rfl rfl ?_
    refine z_il4 (pc' := 117) 62 rfl rfl ?_
    first | refine z_if_eqB (pc' := 120) 63 rfl rfl (tgt := 130) rfl (fun h117 => ?_) (fun h117 => ?_) | refine z_if_eqN (pc' := 120) 63 rfl rfl (tgt := 130) rfl (by omega) (fun h117 => ?_) (fun h117 => ?_) | refine z_if_eq (pc' := 120) 63 rfl rfl (tgt := 130) rfl (fun h117 => ?_) (fun h117 => ?_)
    · refine z_il4 (pc' := 132) 69 rfl rfl ?_
      exact z_ireturn 70 rfl rfl (by first | rfl | exact zbo_nar) rfl rfl (by rw [cmp_k, if_neg h117, zbo_f h117]; exact rd_fl y2)
    · have g2 := g2 h117
      have g3 := g3 h117
      have y3a := (y3 h117).1
      rw [Nat.add_zero] at g1 g2 g3
      refine z_il3 (pc' := 121) 64 rfl rfl ?_
      first | refine z_if_eqB (pc' := 124) 65 rfl rfl (tgt := 130) rfl (fun h121 => ?_) (fun h121 => ?_) | refine z_if_eqN (pc' := 124) 65 rfl rfl (tgt := 130) rfl (by omega) (fun h121 => ?_) (fun h121 => ?_) | refine z_if_eq (pc' := 124) 65 rfl rfl (tgt := 130) rfl (fun h121 => ?_) (fun h121 => ?_)
      · refine z_il4 (pc' := 132) 69 rfl rfl ?_
        exact z_ireturn 70 rfl rfl (by first | rfl | exact zbo_nar) rfl rfl (by have k2 : (ntC tc 201 j) % 2 = 0 := Classical.byContradiction (fun z => h121 (by rw [if_neg z]; rfl)); rw [cmp_k, if_pos h117, zbo_t h117, k2]; exact rd_no0 y2 (y3 h117))
      · have k1 : (ntC tc 201 j) % 2 = 1 := Classical.byContradiction (fun z => by rw [if_pos (by omega)] at h121; cases h121)
        refine z_al1 (pc' := 125) 66 rfl rfl ?_
        refine z_bipush (v := nI 12) (by decide) (pc' := 127) 67 rfl rfl ?_
        refine z_callV0 (pc' := 130) 68 rfl rfl k_Ta_93 (by first | exact MT_47 | exact MT_51 | exact MT_55 | (rw [MT_o (by decide)]; assumption)) (c_Bk_writes (by omega)) (by omega) (Nat.le_refl _) (Nat.le_refl _) rfl rfl (Nat.le_of_ble_eq_true rfl) ?_
        refine z_il4 (pc' := 132) 69 rfl rfl ?_
        exact z_ireturn 70 rfl rfl (by first | rfl | exact zbo_nar) rfl rfl (by have k2 : (ntC tc 201 j) % 2 = 1 := Classical.byContradiction (fun z => by rw [if_pos (by omega)] at h121; cases h121); rw [cmp_k, if_pos h117, zbo_t h117, k2]; exact rd_not (by omega) (y3 h117))
  · refine z_il2 (pc' := 64) 33 rfl rfl ?_
    refine z_iconst (v := nI 3) (by decide) (pc' := 65) 34 rfl rfl ?_
    first | refine z_icmp_geN (pc' := 68) 35 rfl rfl (tgt := 108) rfl (by omega) (by omega) (fun h65 => ?_) (fun h65 => ?_) | refine z_icmp_ge (pc' := 68) 35 rfl rfl (tgt := 108) rfl (fun h65 => ?_) (fun h65 => ?_)
    · rw [if_neg (fun z => by omega)] at hp
      cases hp
      obtain ⟨⟨g1, g2⟩, g3⟩ := cmp_pg (j := (j + ntC tc 201 j)) (k := 0) hT (by omega)
      refine z_al0 (pc' := 109) 58 rfl rfl ?_
      refine z_al1 (pc' := 110) 59 rfl rfl ?_
      refine z_callV (pc' := 113) 60 rfl rfl k_Ta_97 (by first | exact MT_47 | exact MT_51 | exact MT_55 | (rw [MT_o (by decide)]; assumption)) (c_Ta_readComparison hT h49 (by omega) (by omega)) (by omega) (Nat.le_refl _) (Nat.le_refl _) rfl rfl (Nat.le_of_ble_eq_true rfl) (fun r110 μ110 h110 => ?_)
      obtain ⟨z9, c9, y0, y1, y2, y3⟩ := h110
      subst y0; subst y1
      dsimp only [Option.toList_some, List.cons_append, List.nil_append]
      refine z_is4 rfl rfl (pc' := 115) 61 rfl rfl ?_
      refine z_il4 (pc' := 117) 62 rfl rfl ?_
      first | refine z_if_eqB (pc' := 120) 63 rfl rfl (tgt := 130) rfl (fun h117 => ?_) (fun h117 => ?_) | refine z_if_eqN (pc' := 120) 63 rfl rfl (tgt := 130) rfl (by omega) (fun h117 => ?_) (fun h117 => ?_) | refine z_if_eq (pc' := 120) 63 rfl rfl (tgt := 130) rfl (fun h117 => ?_) (fun h117 => ?_)
      · refine z_il4 (pc' := 132) 69 rfl rfl ?_
        exact z_ireturn 70 rfl rfl (by first | rfl | exact zbo_nar) rfl rfl (by rw [cmp_k, if_neg h117, zbo_f h117]; exact rd_fl y2)
      · have g2 := g2 h117
        have g3 := g3 h117
        have y3a := (y3 h117).1
        rw [Nat.add_zero] at g1 g2 g3
        refine z_il3 (pc' := 121) 64 rfl rfl ?_
        first | refine z_if_eqB (pc' := 124) 65 rfl rfl (tgt := 130) rfl (fun h121 => ?_) (fun h121 => ?_) | refine z_if_eqN (pc' := 124) 65 rfl rfl (tgt := 130) rfl (by omega) (fun h121 => ?_) (fun h121 => ?_) | refine z_if_eq (pc' := 124) 65 rfl rfl (tgt := 130) rfl (fun h121 => ?_) (fun h121 => ?_)
        · refine z_il4 (pc' := 132) 69 rfl rfl ?_
          exact z_ireturn 70 rfl rfl (by first | rfl | exact zbo_nar) rfl rfl (by have k2 : (ntC tc 201 j) % 2 = 0 := Classical.byContradiction (fun z => h121 (by rw [if_neg z]; rfl)); rw [cmp_k, if_pos h117, zbo_t h117, k2]; exact rd_no0 y2 (y3 h117))
        · have k1 : (ntC tc 201 j) % 2 = 1 := Classical.byContradiction (fun z => by rw [if_pos (by omega)] at h121; cases h121)
          refine z_al1 (pc' := 125) 66 rfl rfl ?_
          refine z_bipush (v := nI 12) (by decide) (pc' := 127) 67 rfl rfl ?_
          refine z_callV0 (pc' := 130) 68 rfl rfl k_Ta_93 (by first | exact MT_47 | exact MT_51 | exact MT_55 | (rw [MT_o (by decide)]; assumption)) (c_Bk_writes (by omega)) (by omega) (Nat.le_refl _) (Nat.le_refl _) rfl rfl (Nat.le_of_ble_eq_true rfl) ?_
          refine z_il4 (pc' := 132) 69 rfl rfl ?_
          exact z_ireturn 70 rfl rfl (by first | rfl | exact zbo_nar) rfl rfl (by have k2 : (ntC tc 201 j) % 2 = 1 := Classical.byContradiction (fun z => by rw [if_pos (by omega)] at h121; cases h121); rw [cmp_k, if_pos h117, zbo_t h117, k2]; exact rd_not (by omega) (y3 h117))
    · rw [if_pos ⟨h60, by omega⟩] at hp
      obtain ⟨r, h1, h2⟩ := Option.bind_eq_some_iff.mp hp
      cases h2
      have hne : (j + ntC tc 201 j) ≠ N := fun z => by rw [z, hT.2.1] at h60; cases h60
      obtain ⟨⟨g1, g2⟩, g3⟩ := (pP_pg hT F 3 _ _ _ _ r (by decide) (by omega) h1).1 (by decide)
      refine z_al0 (pc' := 69) 36 rfl rfl ?_
      refine z_dup rfl (pc' := 70) 37 rfl rfl ?_
      refine z_getf (pc' := 73) 38 rfl rfl f_Ta_28_9 (by first | exact MT_47 | exact MT_51 | exact MT_55 | (rw [MT_o (by decide)]; assumption)) (by rfl) ?_
      refine z_iconst (v := nI 1) (by decide) (pc' := 74) 39 rfl rfl ?_
      first | refine z_iaddN (pc' := 75) 40 rfl rfl ?_ | refine z_iadd (pc' := 75) 40 rfl rfl ?_
      refine z_putf (pc' := 78) 41 rfl rfl f_Ta_28_9 (by first | exact MT_47 | exact MT_51 | exact MT_55 | (rw [MT_o (by decide)]; assumption)) rfl rfl (by rfl) (by rfl) ?_
      dsimp only [List.set]
      rw [MT_s47]
      refine z_al0 (pc' := 79) 42 rfl rfl ?_
      refine z_al1 (pc' := 80) 43 rfl rfl ?_
      refine z_il2 (pc' := 81) 44 rfl rfl ?_
      refine z_iconst (v := nI 1) (by decide) (pc' := 82) 45 rfl rfl ?_
      first | refine z_iaddN (pc' := 83) 46 rfl rfl ?_ | refine z_iadd (pc' := 83) 46 rfl rfl ?_
      rw [show 3 - L + 1 = 3 - (L - 1) by omega]
      refine z_callV (pc' := 86) 47 rfl rfl k_Ta_82 (by first | exact MT_47 | exact MT_51 | exact MT_55 | (rw [MT_o (by decide)]; assumption)) (ihc (by omega) F _ _ _ r (by omega) (by omega) h1) (by omega) (Nat.le_refl _) (Nat.le_refl _) rfl rfl (Nat.le_of_ble_eq_true rfl) (fun r83 μ83 h83 => ?_)
      obtain ⟨z9, c9, y0, y1, y2, y3⟩ := h83
      subst y0; subst y1
      dsimp only [Option.toList_some, List.cons_append, List.nil_append]
      first | refine z_if_eqB (pc' := 89) 48 rfl rfl (tgt := 102) rfl (fun h86 => ?_) (fun h86 => ?_) | refine z_if_eqN (pc' := 89) 48 rfl rfl (tgt := 102) rfl (by omega) (fun h86 => ?_) (fun h86 => ?_) | refine z_if_eq (pc' := 89) 48 rfl rfl (tgt := 102) rfl (fun h86 => ?_) (fun h86 => ?_)
      · refine z_iconst (v := nI 0) (by decide) (pc' := 103) 55 rfl rfl ?_
        refine z_is4 rfl rfl (pc' := 105) 56 rfl rfl ?_
        refine z_goto 57 rfl (tgt := 115) rfl ?_
        refine z_il4 (pc' := 117) 62 rfl rfl ?_
        refine z_if_eq_t 63 rfl (tgt := 130) rfl rfl ?_
        refine z_il4 (pc' := 132) 69 rfl rfl ?_
        exact z_ireturn 70 rfl rfl (by first | rfl | exact zbo_nar) rfl rfl (by rw [show opR tc (ntC tc 201 j) r = fl9 r.1 from if_neg h86]; exact rd_fl y2)
      · have g2 := g2 h86
        have g3 := g3 h86
        have y3 := y3 h86
        have y3a := y3.1
        refine z_al0 (pc' := 90) 49 rfl rfl ?_
        refine z_bipush (v := nI 20) (by decide) (pc' := 92) 50 rfl rfl ?_
        refine z_callV1 (pc' := 95) 51 rfl rfl k_Ta_79 (by first | exact MT_47 | exact MT_51 | exact MT_55 | (rw [MT_o (by decide)]; assumption)) (c_Ta_reads hT h49 g1 (by decide)) (by omega) (Nat.le_refl _) (Nat.le_refl _) rfl rfl (Nat.le_of_ble_eq_true rfl) ?_
        first | refine z_if_eqB (pc' := 98) 52 rfl rfl (tgt := 102) rfl (fun h95 => ?_) (fun h95 => ?_) | refine z_if_eqN (pc' := 98) 52 rfl rfl (tgt := 102) rfl (by omega) (fun h95 => ?_) (fun h95 => ?_) | refine z_if_eq (pc' := 98) 52 rfl rfl (tgt := 102) rfl (fun h95 => ?_) (fun h95 => ?_)
        · refine z_iconst (v := nI 0) (by decide) (pc' := 103) 55 rfl rfl ?_
          refine z_is4 rfl rfl (pc' := 105) 56 rfl rfl ?_
          refine z_goto 57 rfl (tgt := 115) rfl ?_
          refine z_il4 (pc' := 117) 62 rfl rfl ?_
          refine z_if_eq_t 63 rfl (tgt := 130) rfl rfl ?_
          refine z_il4 (pc' := 132) 69 rfl rfl ?_
          exact z_ireturn 70 rfl rfl (by first | rfl | exact zbo_nar) rfl rfl (by rw [show opR tc (ntC tc 201 j) r = fl9 r.1 by rw [opR, if_pos h86, if_neg h95], if_neg h95]; exact rd_fl y2)
        · have hcl : r.1 ≠ N := fun z => by rw [z, hT.2.1] at h95; cases h95
          refine z_iconst (v := nI 1) (by decide) (pc' := 99) 53 rfl rfl ?_
          refine z_goto 54 rfl (tgt := 103) rfl ?_
          refine z_is4 rfl rfl (pc' := 105) 56 rfl rfl ?_
          refine z_goto 57 rfl (tgt := 115) rfl ?_
          refine z_il4 (pc' := 117) 62 rfl rfl ?_
          refine z_if_eq_f (pc' := 120) 63 rfl rfl (tgt := 130) rfl (by decide) ?_
          
          refine z_il3 (pc' := 121) 64 rfl rfl ?_
          first | refine z_if_eqB (pc' := 124) 65 rfl rfl (tgt := 130) rfl (fun h121 => ?_) (fun h121 => ?_) | refine z_if_eqN (pc' := 124) 65 rfl rfl (tgt := 130) rfl (by omega) (fun h121 => ?_) (fun h121 => ?_) | refine z_if_eq (pc' := 124) 65 rfl rfl (tgt := 130) rfl (fun h121 => ?_) (fun h121 => ?_)
          · refine z_il4 (pc' := 132) 69 rfl rfl ?_
            exact z_ireturn 70 rfl rfl (by first | rfl | exact zbo_nar) rfl rfl (by have k2 : (ntC tc 201 j) % 2 = 0 := Classical.byContradiction (fun z => h121 (by rw [if_neg z]; rfl)); rw [show opR tc (ntC tc 201 j) r = (r.1 + 1, true, r.2.2.1 ++ nts ((ntC tc 201 j) % 2), r.2.2.2 ++ nts (ntC tc 201 j)) by rw [opR, if_pos h86, if_pos h95], if_pos h95, k2]; exact rd_no0 y2 y3)
          · have k1 : (ntC tc 201 j) % 2 = 1 := Classical.byContradiction (fun z => by rw [if_pos (by omega)] at h121; cases h121)
            refine z_al1 (pc' := 125) 66 rfl rfl ?_
            refine z_bipush (v := nI 12) (by decide) (pc' := 127) 67 rfl rfl ?_
            refine z_callV0 (pc' := 130) 68 rfl rfl k_Ta_93 (by first | exact MT_47 | exact MT_51 | exact MT_55 | (rw [MT_o (by decide)]; assumption)) (c_Bk_writes (by omega)) (by omega) (Nat.le_refl _) (Nat.le_refl _) rfl rfl (Nat.le_of_ble_eq_true rfl) ?_
            refine z_il4 (pc' := 132) 69 rfl rfl ?_
            exact z_ireturn 70 rfl rfl (by first | rfl | exact zbo_nar) rfl rfl (by have k2 : (ntC tc 201 j) % 2 = 1 := Classical.byContradiction (fun z => by rw [if_pos (by omega)] at h121; cases h121); rw [show opR tc (ntC tc 201 j) r = (r.1 + 1, true, r.2.2.1 ++ nts ((ntC tc 201 j) % 2), r.2.2.2 ++ nts (ntC tc 201 j)) by rw [opR, if_pos h86, if_pos h95], if_pos h95, k2]; exact rd_not (by omega) y3)
/-- at the head of the loop: what has been read, and what it comes to -/
def HD (tc : Nat → Nat) (L : Nat) (aw ow : Bool) (A Am B Bm : zI) (j : Nat) (R : zR9) : Prop := ∃ F0 r, pP tc F0 0 L j [] [] = some r ∧ (¬ r.2.1 = true → R = fl9 r.1) ∧ (r.2.1 = true → ∃ F1 a, pP tc F1 1 L r.1 (if aw = true then B ++ r.2.2.1 ++ [(11, 0, 0)] else r.2.2.1) (if aw = true then Bm ++ r.2.2.2 ++ [(11, 0, 0)] else r.2.2.2) = some a ∧ (¬ a.2.1 = true → R = fl9 a.1) ∧ (a.2.1 = true → ∃ F2, pP tc F2 2 L a.1 (if ow = true then A ++ a.2.2.1 ++ [(10, 0, 0)] else a.2.2.1) (if ow = true then Am ++ a.2.2.2 ++ [(10, 0, 0)] else a.2.2.2) = some R))
theorem fuel1 {tc : Nat → Nat} {F t L j : Nat} {ic im : zI} {R : zR9} (h : pP tc F t L j ic im = some R) : ∃ F0, F = F0 + 1 := by
  cases F with
  | zero => cases h
  | succ F => exact ⟨F, rfl⟩
theorem HD_all {tc : Nat → Nat} {F L j : Nat} {r4 R : zR9} {ow : Bool} {A Am : zI} (h : pP tc F 4 L j [] [] = some r4) (hn : ¬ r4.2.1 = true → R = fl9 r4.1) (hy : r4.2.1 = true → ∃ F2, pP tc F2 2 L r4.1 (if ow = true then A ++ r4.2.2.1 ++ [(10, 0, 0)] else r4.2.2.1) (if ow = true then Am ++ r4.2.2.2 ++ [(10, 0, 0)] else r4.2.2.2) = some R) : HD tc L false ow A Am [] [] j R := by
  obtain ⟨F, rfl⟩ := fuel1 h
  rw [pP_4] at h
  obtain ⟨r, h1, h2⟩ := Option.bind_eq_some_iff.mp h
  refine ⟨F, r, h1, fun w => ?_, fun w => ?_⟩
  · rw [if_neg w] at h2
    cases h2
    exact hn nf9
  · rw [if_pos w] at h2
    exact ⟨F, r4, h2, hn, hy⟩
theorem HD_start {tc : Nat → Nat} {F L j : Nat} {R : zR9} (h : pP tc F 3 L j [] [] = some R) : HD tc L false false [] [] [] [] j R := by
  obtain ⟨F, rfl⟩ := fuel1 h
  rw [pP_3] at h
  obtain ⟨r4, h1, h2⟩ := Option.bind_eq_some_iff.mp h
  refine HD_all h1 (fun w => ?_) (fun w => ?_)
  · rw [if_neg w] at h2; cases h2; rfl
  · rw [if_pos w] at h2; exact ⟨F, h2⟩
/-- an "and" comes -/
theorem HD_and {tc : Nat → Nat} {F1 L i : Nat} {ow : Bool} {A Am B Bm : zI} {a R : zR9} (h : pP tc F1 1 L i B Bm = some a) (hc : tc i = 11) (hn : ¬ a.2.1 = true → R = fl9 a.1) (hy : a.2.1 = true → ∃ F2, pP tc F2 2 L a.1 (if ow = true then A ++ a.2.2.1 ++ [(10, 0, 0)] else a.2.2.1) (if ow = true then Am ++ a.2.2.2 ++ [(10, 0, 0)] else a.2.2.2) = some R) : HD tc L true ow A Am B Bm (i + 1) R := by
  obtain ⟨F, rfl⟩ := fuel1 h
  rw [pP_1, if_pos hc] at h
  obtain ⟨r, h1, h2⟩ := Option.bind_eq_some_iff.mp h
  refine ⟨F, r, h1, fun w => ?_, fun w => ?_⟩
  · rw [if_neg w] at h2; cases h2; exact hn nf9
  · rw [if_pos w] at h2; exact ⟨F, a, h2, hn, hy⟩
theorem P1_no {tc : Nat → Nat} {F1 L i : Nat} {B Bm : zI} {a : zR9} (h : pP tc F1 1 L i B Bm = some a) (hc : ¬ tc i = 11) : a = (i, true, B, Bm) := by
  obtain ⟨F, rfl⟩ := fuel1 h
  rw [pP_1, if_neg hc] at h
  cases h; rfl
theorem P2_no {tc : Nat → Nat} {F1 L i : Nat} {B Bm : zI} {a : zR9} (h : pP tc F1 2 L i B Bm = some a) (hc : ¬ tc i = 10) : a = (i, true, B, Bm) := by
  obtain ⟨F, rfl⟩ := fuel1 h
  rw [pP_2, if_neg hc] at h
  cases h; rfl
theorem HD_or {tc : Nat → Nat} {F2 L i : Nat} {A Am : zI} {R : zR9} (h : pP tc F2 2 L i A Am = some R) (hc : tc i = 10) : HD tc L false true A Am [] [] (i + 1) R := by
  obtain ⟨F, rfl⟩ := fuel1 h
  rw [pP_2, if_pos hc] at h
  obtain ⟨r4, h1, h2⟩ := Option.bind_eq_some_iff.mp h
  refine HD_all h1 (fun w => ?_) (fun w => ?_)
  · rw [if_neg w] at h2; cases h2; rfl
  · rw [if_pos w] at h2; exact ⟨F, h2⟩
theorem sg_one {c : Nat → Nat} {z b o : Nat} {x : zI} (ho : o < 21) (h : sg c b x z) : sg (un c z o) b (x ++ [(o, 0, 0)]) (z + 1) := by
  have hs : sg (un c z o) z [(o, 0, 0)] (z + 1) := by
    show un c z o z = o ∧ (if o < 21 then sg (un c z o) (z + 1) [] (z + 1) else _)
    exact ⟨un_s, by rw [if_pos ho]; rfl⟩
  exact sg_app hs _ _ (sg_ext _ _ _ (fun j hj => un_n (by omega)) h)
set_option maxHeartbeats 4000000 in
set_option maxRecDepth 100000 in
theorem l_Ta_readCondition {G : zG} {n u : Nat} {ν : Nat → va_E} {ln : Nat} {c : Int32} {kd de bg : Nat → Int32} {tc : Nat → Nat} {N : Nat} (hT : iTk tc N) (h49 : ν 49 = .inl (0, 201, .inl (fun j => nI (tc j)))) {L : Nat} (hL : L ≤ 3) (iho : ∀ F j z (c4 : Nat → Nat) R, j ≤ N → z ≤ j → pP tc F 0 L j [] [] = some R → zMet G (3 + 2 * L) M_Ta_readOne [.ref 47, .ref 51, .int (nI (3 - L))] n u (MT ν ln c kd de bg j z c4) n u (rdP ν ln c kd de bg z c4 R)) {z : Nat} {c4 : Nat → Nat} {R : zR9} : ∀ m j part (aw ow : Bool) (A Am B Bm : zI) (zc : Nat) (cc : Nat → Nat), N - j < m → j ≤ N → 2 * part ≤ j → zc + (if aw = true then 1 else 0) + (if ow = true then 1 else 0) ≤ j → HD tc L aw ow A Am B Bm j R → sg cc z (A ++ B) zc → (∀ i, i < z → cc i = c4 i) → (¬ aw = true → B = []) → (¬ ow = true → A = []) →
    zW G (4 + 2 * L) M_Ta_readCondition 8 [.ref 47, .ref 51, .int (nI (3 - L)), .int (bI aw), .int (bI ow), .int (nI part)] [] n u (MT ν ln c kd de bg j zc cc) n u (rdP ν ln c kd de bg z c4 R)
  | 0, _, _, _, _, _, _, _, _, _, _, hm, _, _, _, _, _, _, _, _ => by omega
  | m + 1, j, part, aw, ow, A, Am, B, Bm, zc, cc, hm, hj, hpt, hzc, hHD, hs, hpr, hBn, hAn => by
    have hN := hT.1
    obtain ⟨F0, r, q1, q2, q3⟩ := hHD
    have hzl := sg_le _ _ _ hs
    have haw : (if aw = true then 1 else 0) ≤ 1 := by split <;> omega
    have how : (if ow = true then 1 else 0) ≤ 1 := by split <;> omega
    refine z_il5 (pc' := 10) 6 rfl rfl ?_
    refine z_sipush (v := nI 200) (by decide) (pc' := 13) 7 rfl rfl ?_
    first | refine z_icmp_geN (pc' := 16) 8 rfl rfl (tgt := 83) rfl (by omega) (by omega) (fun h13 => ?_) (fun h13 => ?_) | refine z_icmp_ge (pc' := 16) 8 rfl rfl (tgt := 83) rfl (fun h13 => ?_) (fun h13 => ?_)
    · exfalso; omega
    · refine z_al0 (pc' := 17) 9 rfl rfl ?_
      refine z_al1 (pc' := 18) 10 rfl rfl ?_
      refine z_il2 (pc' := 19) 11 rfl rfl ?_
      refine z_callV (pc' := 22) 12 rfl rfl k_Ta_90 (by first | exact MT_47 | exact MT_51 | exact MT_55 | (rw [MT_o (by decide)]; assumption)) (iho F0 _ _ _ r hj (by omega) q1) (by omega) (Nat.le_refl _) (Nat.le_refl _) rfl rfl (Nat.le_of_ble_eq_true rfl) (fun r19 μ19 h19 => ?_)
      obtain ⟨z9, c9, y0, y1, y2, y3⟩ := h19
      subst y0; subst y1
      dsimp only [Option.toList_some, List.cons_append, List.nil_append]
      first | refine z_if_neB (pc' := 25) 13 rfl rfl (tgt := 27) rfl (fun h22 => ?_) (fun h22 => ?_) | refine z_if_neN (pc' := 25) 13 rfl rfl (tgt := 27) rfl (by omega) (fun h22 => ?_) (fun h22 => ?_) | refine z_if_ne (pc' := 25) 13 rfl rfl (tgt := 27) rfl (fun h22 => ?_) (fun h22 => ?_)
      · obtain ⟨F1, a, k1, k2, k3⟩ := q3 h22
        obtain ⟨⟨g1, g2⟩, g3⟩ := (pP_pg hT F0 0 _ _ _ _ r (by decide) hj q1).1 (by decide)
        have g2 := g2 h22
        have g3 := g3 h22
        obtain ⟨y3a, y3b, y3c⟩ := y3 h22
        refine z_il3 (pc' := 28) 16 rfl rfl ?_
        first | refine z_if_eqB (pc' := 31) 17 rfl rfl (tgt := 37) rfl (fun h28 => ?_) (fun h28 => ?_) | refine z_if_eqN (pc' := 31) 17 rfl rfl (tgt := 37) rfl (by omega) (fun h28 => ?_) (fun h28 => ?_) | refine z_if_eq (pc' := 31) 17 rfl rfl (tgt := 37) rfl (fun h28 => ?_) (fun h28 => ?_)
        · have hB0 := hBn h28
          have hs0 : sg cc z A zc := by rw [hB0, List.append_nil] at hs; exact hs
          have hsA : sg c9 z (A ++ (if aw = true then B ++ r.2.2.1 ++ [(11, 0, 0)] else r.2.2.1)) z9 := by
            rw [if_neg h28]
            exact sg_app y3c _ _ (sg_ext _ _ _ y3b hs0)
          have hwA : z9 + (if ow = true then 1 else 0) ≤ r.1 := by omega
          have hpA : ∀ i, i < z → c9 i = c4 i := fun i hi => by rw [y3b i (by omega)]; exact hpr i hi
          obtain ⟨zA, ezA⟩ : ∃ zA, zA = z9 := ⟨_, rfl⟩
          obtain ⟨cA, ecA⟩ : ∃ cA, cA = c9 := ⟨_, rfl⟩
          rw [← ecA, ← ezA] at hsA
          rw [← ecA] at hpA
          rw [← ezA] at hwA
          rw [← ecA, ← ezA]
          refine z_al0 (pc' := 38) 21 rfl rfl ?_
          refine z_bipush (v := nI 11) (by decide) (pc' := 40) 22 rfl rfl ?_
          refine z_callV1 (pc' := 43) 23 rfl rfl k_Ta_79 (by first | exact MT_47 | exact MT_51 | exact MT_55 | (rw [MT_o (by decide)]; assumption)) (c_Ta_reads hT h49 (by omega) (by decide)) (by omega) (Nat.le_refl _) (Nat.le_refl _) rfl rfl (Nat.le_of_ble_eq_true rfl) ?_
          refine z_is3 rfl rfl (pc' := 44) 24 rfl rfl ?_
          refine z_il3 (pc' := 45) 25 rfl rfl ?_
          first | refine z_if_eqB (pc' := 48) 26 rfl rfl (tgt := 51) rfl (fun h45 => ?_) (fun h45 => ?_) | refine z_if_eqN (pc' := 48) 26 rfl rfl (tgt := 51) rfl (by omega) (fun h45 => ?_) (fun h45 => ?_) | refine z_if_eq (pc' := 48) 26 rfl rfl (tgt := 51) rfl (fun h45 => ?_) (fun h45 => ?_)
          · rw [if_neg h45]
            have ea := P1_no k1 h45
            subst ea
            obtain ⟨F2, k4⟩ := k3 rfl
            refine z_il4 (pc' := 53) 28 rfl rfl ?_
            first | refine z_if_eqB (pc' := 56) 29 rfl rfl (tgt := 62) rfl (fun h53 => ?_) (fun h53 => ?_) | refine z_if_eqN (pc' := 56) 29 rfl rfl (tgt := 62) rfl (by omega) (fun h53 => ?_) (fun h53 => ?_) | refine z_if_eq (pc' := 56) 29 rfl rfl (tgt := 62) rfl (fun h53 => ?_) (fun h53 => ?_)
            · obtain ⟨AO, eAO⟩ : ∃ AO, AO = (if ow = true then A ++ (if aw = true then B ++ r.2.2.1 ++ [(11, 0, 0)] else r.2.2.1) ++ [(10, 0, 0)] else (if aw = true then B ++ r.2.2.1 ++ [(11, 0, 0)] else r.2.2.1)) := ⟨_, rfl⟩
              have hA0 := hAn h53
              have hsO : sg cA z AO zA := by rw [eAO, if_neg h53]; rw [hA0, List.nil_append] at hsA; exact hsA
              have k4 : pP tc F2 2 L r.1 AO (if ow = true then Am ++ (if aw = true then Bm ++ r.2.2.2 ++ [(11, 0, 0)] else r.2.2.2) ++ [(10, 0, 0)] else (if aw = true then Bm ++ r.2.2.2 ++ [(11, 0, 0)] else r.2.2.2)) = some R := by rw [eAO]; exact k4
              have hpO := hpA
              have hwO : zA ≤ r.1 := by omega
              obtain ⟨zO, ezO⟩ : ∃ zO, zO = zA := ⟨_, rfl⟩
              obtain ⟨cO, ecO⟩ : ∃ cO, cO = cA := ⟨_, rfl⟩
              rw [← ecO, ← ezO] at hsO
              rw [← ecO] at hpO
              rw [← ecO, ← ezO]
              refine z_al0 (pc' := 63) 33 rfl rfl ?_
              refine z_bipush (v := nI 10) (by decide) (pc' := 65) 34 rfl rfl ?_
              refine z_callV1 (pc' := 68) 35 rfl rfl k_Ta_79 (by first | exact MT_47 | exact MT_51 | exact MT_55 | (rw [MT_o (by decide)]; assumption)) (c_Ta_reads hT h49 (by omega) (by decide)) (by omega) (Nat.le_refl _) (Nat.le_refl _) rfl rfl (Nat.le_of_ble_eq_true rfl) ?_
              refine z_is4 rfl rfl (pc' := 70) 36 rfl rfl ?_
              refine z_il4 (pc' := 72) 37 rfl rfl ?_
              first | refine z_if_neB (pc' := 75) 38 rfl rfl (tgt := 77) rfl (fun h72 => ?_) (fun h72 => ?_) | refine z_if_neN (pc' := 75) 38 rfl rfl (tgt := 77) rfl (by omega) (fun h72 => ?_) (fun h72 => ?_) | refine z_if_ne (pc' := 75) 38 rfl rfl (tgt := 77) rfl (fun h72 => ?_) (fun h72 => ?_)
              · first | refine z_inc5N rfl rfl (pc' := 80) 41 rfl rfl ?_ | refine z_inc5 rfl rfl rfl (pc' := 80) 41 rfl rfl ?_
                refine z_goto 42 rfl (tgt := 8) rfl ?_
                rw [if_pos h72, show zbo (tc r.1 = 11) = bI false by rw [zbo_f h45]; rfl, show zbo (tc r.1 = 10) = bI true by rw [zbo_t h72]; rfl]
                have hne : r.1 ≠ N := fun z => by rw [z, hT.2.1] at h72; cases h72
                exact l_Ta_readCondition hT h49 hL iho m (r.1 + 1) (part + 1) false true AO (if ow = true then Am ++ (if aw = true then Bm ++ r.2.2.2 ++ [(11, 0, 0)] else r.2.2.2) ++ [(10, 0, 0)] else (if aw = true then Bm ++ r.2.2.2 ++ [(11, 0, 0)] else r.2.2.2)) [] [] zO cO (by omega) (by omega) (by omega) (by rw [if_neg (show ¬ false = true by decide), if_pos (show true = true from rfl)]; omega) (HD_or k4 h72) (by rw [List.append_nil]; exact hsO) hpO (fun _ => rfl) (fun z => absurd rfl z)
              · refine z_iconst (v := nI 1) (by decide) (pc' := 76) 39 rfl rfl ?_
                exact z_ireturn 40 rfl rfl (by first | rfl | exact zbo_nar) rfl rfl (by rw [if_neg h72]; have eR := P2_no k4 h72; subst eR; exact ⟨zO, cO, rfl, rfl, by omega, fun _ => ⟨sg_len _ _ _ hsO, hpO, hsO⟩⟩)
            · rw [if_pos h53] at hzc
              refine z_al1 (pc' := 57) 30 rfl rfl ?_
              refine z_bipush (v := nI 10) (by decide) (pc' := 59) 31 rfl rfl ?_
              refine z_callV0 (pc' := 62) 32 rfl rfl k_Ta_93 (by first | exact MT_47 | exact MT_51 | exact MT_55 | (rw [MT_o (by decide)]; assumption)) (c_Bk_writes (by omega)) (by omega) (Nat.le_refl _) (Nat.le_refl _) rfl rfl (Nat.le_of_ble_eq_true rfl) ?_
              obtain ⟨AO, eAO⟩ : ∃ AO, AO = (if ow = true then A ++ (if aw = true then B ++ r.2.2.1 ++ [(11, 0, 0)] else r.2.2.1) ++ [(10, 0, 0)] else (if aw = true then B ++ r.2.2.1 ++ [(11, 0, 0)] else r.2.2.1)) := ⟨_, rfl⟩
              have hsO : sg (un cA zA 10) z AO (zA + 1) := by rw [eAO, if_pos h53]; exact sg_one (by decide) hsA
              have k4 : pP tc F2 2 L r.1 AO (if ow = true then Am ++ (if aw = true then Bm ++ r.2.2.2 ++ [(11, 0, 0)] else r.2.2.2) ++ [(10, 0, 0)] else (if aw = true then Bm ++ r.2.2.2 ++ [(11, 0, 0)] else r.2.2.2)) = some R := by rw [eAO]; exact k4
              have hpO : ∀ i, i < z → un cA zA 10 i = c4 i := fun i hi => by rw [un_n (by have := sg_le _ _ _ hsA; omega)]; exact hpA i hi
              have hwO : zA + 1 ≤ r.1 := by rw [if_pos h53] at hwA; exact hwA
              obtain ⟨zO, ezO⟩ : ∃ zO, zO = zA + 1 := ⟨_, rfl⟩
              obtain ⟨cO, ecO⟩ : ∃ cO, cO = un cA zA 10 := ⟨_, rfl⟩
              rw [← ecO, ← ezO] at hsO
              rw [← ecO] at hpO
              rw [← ecO, ← ezO]
              refine z_al0 (pc' := 63) 33 rfl rfl ?_
              refine z_bipush (v := nI 10) (by decide) (pc' := 65) 34 rfl rfl ?_
              refine z_callV1 (pc' := 68) 35 rfl rfl k_Ta_79 (by first | exact MT_47 | exact MT_51 | exact MT_55 | (rw [MT_o (by decide)]; assumption)) (c_Ta_reads hT h49 (by omega) (by decide)) (by omega) (Nat.le_refl _) (Nat.le_refl _) rfl rfl (Nat.le_of_ble_eq_true rfl) ?_
              refine z_is4 rfl rfl (pc' := 70) 36 rfl rfl ?_
              refine z_il4 (pc' := 72) 37 rfl rfl ?_
              first | refine z_if_neB (pc' := 75) 38 rfl rfl (tgt := 77) rfl (fun h72 => ?_) (fun h72 => ?_) | refine z_if_neN (pc' := 75) 38 rfl rfl (tgt := 77) rfl (by omega) (fun h72 => ?_) (fun h72 => ?_) | refine z_if_ne (pc' := 75) 38 rfl rfl (tgt := 77) rfl (fun h72 => ?_) (fun h72 => ?_)
              · first | refine z_inc5N rfl rfl (pc' := 80) 41 rfl rfl ?_ | refine z_inc5 rfl rfl rfl (pc' := 80) 41 rfl rfl ?_
                refine z_goto 42 rfl (tgt := 8) rfl ?_
                rw [if_pos h72, show zbo (tc r.1 = 11) = bI false by rw [zbo_f h45]; rfl, show zbo (tc r.1 = 10) = bI true by rw [zbo_t h72]; rfl]
                have hne : r.1 ≠ N := fun z => by rw [z, hT.2.1] at h72; cases h72
                exact l_Ta_readCondition hT h49 hL iho m (r.1 + 1) (part + 1) false true AO (if ow = true then Am ++ (if aw = true then Bm ++ r.2.2.2 ++ [(11, 0, 0)] else r.2.2.2) ++ [(10, 0, 0)] else (if aw = true then Bm ++ r.2.2.2 ++ [(11, 0, 0)] else r.2.2.2)) [] [] zO cO (by omega) (by omega) (by omega) (by rw [if_neg (show ¬ false = true by decide), if_pos (show true = true from rfl)]; omega) (HD_or k4 h72) (by rw [List.append_nil]; exact hsO) hpO (fun _ => rfl) (fun z => absurd rfl z)
              · refine z_iconst (v := nI 1) (by decide) (pc' := 76) 39 rfl rfl ?_
                exact z_ireturn 40 rfl rfl (by first | rfl | exact zbo_nar) rfl rfl (by rw [if_neg h72]; have eR := P2_no k4 h72; subst eR; exact ⟨zO, cO, rfl, rfl, by omega, fun _ => ⟨sg_len _ _ _ hsO, hpO, hsO⟩⟩)
          · refine z_goto 27 rfl (tgt := 77) rfl ?_
            first | refine z_inc5N rfl rfl (pc' := 80) 41 rfl rfl ?_ | refine z_inc5 rfl rfl rfl (pc' := 80) 41 rfl rfl ?_
            refine z_goto 42 rfl (tgt := 8) rfl ?_
            rw [if_pos h45, show zbo (tc r.1 = 11) = bI true by rw [zbo_t h45]; rfl]
            have hne : r.1 ≠ N := fun z => by rw [z, hT.2.1] at h45; cases h45
            exact l_Ta_readCondition hT h49 hL iho m (r.1 + 1) (part + 1) true ow A Am (if aw = true then B ++ r.2.2.1 ++ [(11, 0, 0)] else r.2.2.1) (if aw = true then Bm ++ r.2.2.2 ++ [(11, 0, 0)] else r.2.2.2) zA cA (by omega) (by omega) (by omega) (by rw [if_pos (show true = true from rfl)]; omega) (HD_and k1 h45 k2 k3) hsA hpA (fun z => absurd rfl z) hAn
        · rw [if_pos h28] at hzc
          refine z_al1 (pc' := 32) 18 rfl rfl ?_
          refine z_bipush (v := nI 11) (by decide) (pc' := 34) 19 rfl rfl ?_
          refine z_callV0 (pc' := 37) 20 rfl rfl k_Ta_93 (by first | exact MT_47 | exact MT_51 | exact MT_55 | (rw [MT_o (by decide)]; assumption)) (c_Bk_writes (by omega)) (by omega) (Nat.le_refl _) (Nat.le_refl _) rfl rfl (Nat.le_of_ble_eq_true rfl) ?_
          have hsA : sg (un c9 z9 11) z (A ++ (if aw = true then B ++ r.2.2.1 ++ [(11, 0, 0)] else r.2.2.1)) (z9 + 1) := by
            rw [if_pos h28, show A ++ (B ++ r.2.2.1 ++ [(11, 0, 0)]) = (A ++ B ++ r.2.2.1) ++ [(11, 0, 0)] by simp]
            exact sg_one (by decide) (sg_app y3c _ _ (sg_ext _ _ _ y3b hs))
          have hwA : z9 + 1 + (if ow = true then 1 else 0) ≤ r.1 := by omega
          have hpA : ∀ i, i < z → un c9 z9 11 i = c4 i := fun i hi => by rw [un_n (by omega), y3b i (by omega)]; exact hpr i hi
          obtain ⟨zA, ezA⟩ : ∃ zA, zA = z9 + 1 := ⟨_, rfl⟩
          obtain ⟨cA, ecA⟩ : ∃ cA, cA = un c9 z9 11 := ⟨_, rfl⟩
          rw [← ecA, ← ezA] at hsA
          rw [← ecA] at hpA
          rw [← ezA] at hwA
          rw [← ecA, ← ezA]
          refine z_al0 (pc' := 38) 21 rfl rfl ?_
          refine z_bipush (v := nI 11) (by decide) (pc' := 40) 22 rfl rfl ?_
          refine z_callV1 (pc' := 43) 23 rfl rfl k_Ta_79 (by first | exact MT_47 | exact MT_51 | exact MT_55 | (rw [MT_o (by decide)]; assumption)) (c_Ta_reads hT h49 (by omega) (by decide)) (by omega) (Nat.le_refl _) (Nat.le_refl _) rfl rfl (Nat.le_of_ble_eq_true rfl) ?_
          refine z_is3 rfl rfl (pc' := 44) 24 rfl rfl ?_
          refine z_il3 (pc' := 45) 25 rfl rfl ?_
          first | refine z_if_eqB (pc' := 48) 26 rfl rfl (tgt := 51) rfl (fun h45 => ?_) (fun h45 => ?_) | refine z_if_eqN (pc' := 48) 26 rfl rfl (tgt := 51) rfl (by omega) (fun h45 => ?_) (fun h45 => ?_) | refine z_if_eq (pc' := 48) 26 rfl rfl (tgt := 51) rfl (fun h45 => ?_) (fun h45 => ?_)
          · rw [if_neg h45]
            have ea := P1_no k1 h45
            subst ea
            obtain ⟨F2, k4⟩ := k3 rfl
            refine z_il4 (pc' := 53) 28 rfl rfl ?_
            first | refine z_if_eqB (pc' := 56) 29 rfl rfl (tgt := 62) rfl (fun h53 => ?_) (fun h53 => ?_) | refine z_if_eqN (pc' := 56) 29 rfl rfl (tgt := 62) rfl (by omega) (fun h53 => ?_) (fun h53 => ?_) | refine z_if_eq (pc' := 56) 29 rfl rfl (tgt := 62) rfl (fun h53 => ?_) (fun h53 => ?_)
            · obtain ⟨AO, eAO⟩ : ∃ AO, AO = (if ow = true then A ++ (if aw = true then B ++ r.2.2.1 ++ [(11, 0, 0)] else r.2.2.1) ++ [(10, 0, 0)] else (if aw = true then B ++ r.2.2.1 ++ [(11, 0, 0)] else r.2.2.1)) := ⟨_, rfl⟩
              have hA0 := hAn h53
              have hsO : sg cA z AO zA := by rw [eAO, if_neg h53]; rw [hA0, List.nil_append] at hsA; exact hsA
              have k4 : pP tc F2 2 L r.1 AO (if ow = true then Am ++ (if aw = true then Bm ++ r.2.2.2 ++ [(11, 0, 0)] else r.2.2.2) ++ [(10, 0, 0)] else (if aw = true then Bm ++ r.2.2.2 ++ [(11, 0, 0)] else r.2.2.2)) = some R := by rw [eAO]; exact k4
              have hpO := hpA
              have hwO : zA ≤ r.1 := by omega
              obtain ⟨zO, ezO⟩ : ∃ zO, zO = zA := ⟨_, rfl⟩
              obtain ⟨cO, ecO⟩ : ∃ cO, cO = cA := ⟨_, rfl⟩
              rw [← ecO, ← ezO] at hsO
              rw [← ecO] at hpO
              rw [← ecO, ← ezO]
              refine z_al0 (pc' := 63) 33 rfl rfl ?_
              refine z_bipush (v := nI 10) (by decide) (pc' := 65) 34 rfl rfl ?_
              refine z_callV1 (pc' := 68) 35 rfl rfl k_Ta_79 (by first | exact MT_47 | exact MT_51 | exact MT_55 | (rw [MT_o (by decide)]; assumption)) (c_Ta_reads hT h49 (by omega) (by decide)) (by omega) (Nat.le_refl _) (Nat.le_refl _) rfl rfl (Nat.le_of_ble_eq_true rfl) ?_
              refine z_is4 rfl rfl (pc' := 70) 36 rfl rfl ?_
              refine z_il4 (pc' := 72) 37 rfl rfl ?_
              first | refine z_if_neB (pc' := 75) 38 rfl rfl (tgt := 77) rfl (fun h72 => ?_) (fun h72 => ?_) | refine z_if_neN (pc' := 75) 38 rfl rfl (tgt := 77) rfl (by omega) (fun h72 => ?_) (fun h72 => ?_) | refine z_if_ne (pc' := 75) 38 rfl rfl (tgt := 77) rfl (fun h72 => ?_) (fun h72 => ?_)
              · first | refine z_inc5N rfl rfl (pc' := 80) 41 rfl rfl ?_ | refine z_inc5 rfl rfl rfl (pc' := 80) 41 rfl rfl ?_
                refine z_goto 42 rfl (tgt := 8) rfl ?_
                rw [if_pos h72, show zbo (tc r.1 = 11) = bI false by rw [zbo_f h45]; rfl, show zbo (tc r.1 = 10) = bI true by rw [zbo_t h72]; rfl]
                have hne : r.1 ≠ N := fun z => by rw [z, hT.2.1] at h72; cases h72
                exact l_Ta_readCondition hT h49 hL iho m (r.1 + 1) (part + 1) false true AO (if ow = true then Am ++ (if aw = true then Bm ++ r.2.2.2 ++ [(11, 0, 0)] else r.2.2.2) ++ [(10, 0, 0)] else (if aw = true then Bm ++ r.2.2.2 ++ [(11, 0, 0)] else r.2.2.2)) [] [] zO cO (by omega) (by omega) (by omega) (by rw [if_neg (show ¬ false = true by decide), if_pos (show true = true from rfl)]; omega) (HD_or k4 h72) (by rw [List.append_nil]; exact hsO) hpO (fun _ => rfl) (fun z => absurd rfl z)
              · refine z_iconst (v := nI 1) (by decide) (pc' := 76) 39 rfl rfl ?_
                exact z_ireturn 40 rfl rfl (by first | rfl | exact zbo_nar) rfl rfl (by rw [if_neg h72]; have eR := P2_no k4 h72; subst eR; exact ⟨zO, cO, rfl, rfl, by omega, fun _ => ⟨sg_len _ _ _ hsO, hpO, hsO⟩⟩)
            · rw [if_pos h53] at hzc
              refine z_al1 (pc' := 57) 30 rfl rfl ?_
              refine z_bipush (v := nI 10) (by decide) (pc' := 59) 31 rfl rfl ?_
              refine z_callV0 (pc' := 62) 32 rfl rfl k_Ta_93 (by first | exact MT_47 | exact MT_51 | exact MT_55 | (rw [MT_o (by decide)]; assumption)) (c_Bk_writes (by omega)) (by omega) (Nat.le_refl _) (Nat.le_refl _) rfl rfl (Nat.le_of_ble_eq_true rfl) ?_
              obtain ⟨AO, eAO⟩ : ∃ AO, AO = (if ow = true then A ++ (if aw = true then B ++ r.2.2.1 ++ [(11, 0, 0)] else r.2.2.1) ++ [(10, 0, 0)] else (if aw = true then B ++ r.2.2.1 ++ [(11, 0, 0)] else r.2.2.1)) := ⟨_, rfl⟩
              have hsO : sg (un cA zA 10) z AO (zA + 1) := by rw [eAO, if_pos h53]; exact sg_one (by decide) hsA
              have k4 : pP tc F2 2 L r.1 AO (if ow = true then Am ++ (if aw = true then Bm ++ r.2.2.2 ++ [(11, 0, 0)] else r.2.2.2) ++ [(10, 0, 0)] else (if aw = true then Bm ++ r.2.2.2 ++ [(11, 0, 0)] else r.2.2.2)) = some R := by rw [eAO]; exact k4
              have hpO : ∀ i, i < z → un cA zA 10 i = c4 i := fun i hi => by rw [un_n (by have := sg_le _ _ _ hsA; omega)]; exact hpA i hi
              have hwO : zA + 1 ≤ r.1 := by rw [if_pos h53] at hwA; exact hwA
              obtain ⟨zO, ezO⟩ : ∃ zO, zO = zA + 1 := ⟨_, rfl⟩
              obtain ⟨cO, ecO⟩ : ∃ cO, cO = un cA zA 10 := ⟨_, rfl⟩
              rw [← ecO, ← ezO] at hsO
              rw [← ecO] at hpO
              rw [← ecO, ← ezO]
              refine z_al0 (pc' := 63) 33 rfl rfl ?_
              refine z_bipush (v := nI 10) (by decide) (pc' := 65) 34 rfl rfl ?_
              refine z_callV1 (pc' := 68) 35 rfl rfl k_Ta_79 (by first | exact MT_47 | exact MT_51 | exact MT_55 | (rw [MT_o (by decide)]; assumption)) (c_Ta_reads hT h49 (by omega) (by decide)) (by omega) (Nat.le_refl _) (Nat.le_refl _) rfl rfl (Nat.le_of_ble_eq_true rfl) ?_
              refine z_is4 rfl rfl (pc' := 70) 36 rfl rfl ?_
              refine z_il4 (pc' := 72) 37 rfl rfl ?_
              first | refine z_if_neB (pc' := 75) 38 rfl rfl (tgt := 77) rfl (fun h72 => ?_) (fun h72 => ?_) | refine z_if_neN (pc' := 75) 38 rfl rfl (tgt := 77) rfl (by omega) (fun h72 => ?_) (fun h72 => ?_) | refine z_if_ne (pc' := 75) 38 rfl rfl (tgt := 77) rfl (fun h72 => ?_) (fun h72 => ?_)
              · first | refine z_inc5N rfl rfl (pc' := 80) 41 rfl rfl ?_ | refine z_inc5 rfl rfl rfl (pc' := 80) 41 rfl rfl ?_
                refine z_goto 42 rfl (tgt := 8) rfl ?_
                rw [if_pos h72, show zbo (tc r.1 = 11) = bI false by rw [zbo_f h45]; rfl, show zbo (tc r.1 = 10) = bI true by rw [zbo_t h72]; rfl]
                have hne : r.1 ≠ N := fun z => by rw [z, hT.2.1] at h72; cases h72
                exact l_Ta_readCondition hT h49 hL iho m (r.1 + 1) (part + 1) false true AO (if ow = true then Am ++ (if aw = true then Bm ++ r.2.2.2 ++ [(11, 0, 0)] else r.2.2.2) ++ [(10, 0, 0)] else (if aw = true then Bm ++ r.2.2.2 ++ [(11, 0, 0)] else r.2.2.2)) [] [] zO cO (by omega) (by omega) (by omega) (by rw [if_neg (show ¬ false = true by decide), if_pos (show true = true from rfl)]; omega) (HD_or k4 h72) (by rw [List.append_nil]; exact hsO) hpO (fun _ => rfl) (fun z => absurd rfl z)
              · refine z_iconst (v := nI 1) (by decide) (pc' := 76) 39 rfl rfl ?_
                exact z_ireturn 40 rfl rfl (by first | rfl | exact zbo_nar) rfl rfl (by rw [if_neg h72]; have eR := P2_no k4 h72; subst eR; exact ⟨zO, cO, rfl, rfl, by omega, fun _ => ⟨sg_len _ _ _ hsO, hpO, hsO⟩⟩)
          · refine z_goto 27 rfl (tgt := 77) rfl ?_
            first | refine z_inc5N rfl rfl (pc' := 80) 41 rfl rfl ?_ | refine z_inc5 rfl rfl rfl (pc' := 80) 41 rfl rfl ?_
            refine z_goto 42 rfl (tgt := 8) rfl ?_
            rw [if_pos h45, show zbo (tc r.1 = 11) = bI true by rw [zbo_t h45]; rfl]
            have hne : r.1 ≠ N := fun z => by rw [z, hT.2.1] at h45; cases h45
            exact l_Ta_readCondition hT h49 hL iho m (r.1 + 1) (part + 1) true ow A Am (if aw = true then B ++ r.2.2.1 ++ [(11, 0, 0)] else r.2.2.1) (if aw = true then Bm ++ r.2.2.2 ++ [(11, 0, 0)] else r.2.2.2) zA cA (by omega) (by omega) (by omega) (by rw [if_pos (show true = true from rfl)]; omega) (HD_and k1 h45 k2 k3) hsA hpA (fun z => absurd rfl z) hAn
      · refine z_iconst (v := nI 0) (by decide) (pc' := 26) 14 rfl rfl ?_
        exact z_ireturn 15 rfl rfl (by first | rfl | exact zbo_nar) rfl rfl (by rw [q2 h22]; exact rd_fl y2)
set_option maxHeartbeats 4000000 in
set_option maxRecDepth 100000 in
theorem c_Ta_readCondition {G : zG} {n u : Nat} {ν : Nat → va_E} {ln : Nat} {c : Int32} {kd de bg : Nat → Int32} {tc : Nat → Nat} {N : Nat} (hT : iTk tc N) (h49 : ν 49 = .inl (0, 201, .inl (fun j => nI (tc j)))) : ∀ L, L ≤ 3 → ∀ F j z (c4 : Nat → Nat) R, j ≤ N → z ≤ j → pP tc F 3 L j [] [] = some R → zMet G (4 + 2 * L) M_Ta_readCondition [.ref 47, .ref 51, .int (nI (3 - L))] n u (MT ν ln c kd de bg j z c4) n u (rdP ν ln c kd de bg z c4 R)
  | 0, hL, F, j, z, c4, R, hj, hz, hp => by
    refine z_start (lv := [.ref 47, .ref 51, .int (nI (3 - 0)), .retAddr 0, .retAddr 0, .retAddr 0]) K_Ta_readCondition rfl rfl (Nat.le_refl _) (Nat.le_refl _) (Nat.le_of_ble_eq_true rfl) rfl ?_
    refine z_iconst (v := nI 0) (by decide) (pc' := 1) 0 rfl rfl ?_
    refine z_is3 rfl rfl (pc' := 2) 1 rfl rfl ?_
    refine z_iconst (v := nI 0) (by decide) (pc' := 3) 2 rfl rfl ?_
    refine z_is4 rfl rfl (pc' := 5) 3 rfl rfl ?_
    refine z_iconst (v := nI 0) (by decide) (pc' := 6) 4 rfl rfl ?_
    refine z_is5 rfl rfl (pc' := 8) 5 rfl rfl ?_
    exact l_Ta_readCondition hT h49 hL (fun F j z c4 R => c_Ta_readOne hT h49 hL (fun q => by omega) F j z c4 R) (N + 1) j 0 false false [] [] [] [] z c4 (by omega) hj (by omega) (by rw [if_neg (by decide)]; omega) (HD_start hp) rfl (fun _ _ => rfl) (fun _ => rfl) (fun _ => rfl)
  | L + 1, hL, F, j, z, c4, R, hj, hz, hp => by
    refine z_start (lv := [.ref 47, .ref 51, .int (nI (3 - (L + 1))), .retAddr 0, .retAddr 0, .retAddr 0]) K_Ta_readCondition rfl rfl (Nat.le_refl _) (Nat.le_refl _) (Nat.le_of_ble_eq_true rfl) rfl ?_
    refine z_iconst (v := nI 0) (by decide) (pc' := 1) 0 rfl rfl ?_
    refine z_is3 rfl rfl (pc' := 2) 1 rfl rfl ?_
    refine z_iconst (v := nI 0) (by decide) (pc' := 3) 2 rfl rfl ?_
    refine z_is4 rfl rfl (pc' := 5) 3 rfl rfl ?_
    refine z_iconst (v := nI 0) (by decide) (pc' := 6) 4 rfl rfl ?_
    refine z_is5 rfl rfl (pc' := 8) 5 rfl rfl ?_
    exact l_Ta_readCondition hT h49 hL (fun F j z c4 R => c_Ta_readOne hT h49 hL (fun q F j z c4 R => c_Ta_readCondition hT h49 L (by omega) F j z c4 R) F j z c4 R) (N + 1) j 0 false false [] [] [] [] z c4 (by omega) hj (by omega) (by rw [if_neg (by decide)]; omega) (HD_start hp) rfl (fun _ _ => rfl) (fun _ => rfl) (fun _ => rfl)
