/-! ===== a rule, all rules: the class ===== -/
/-- rules read one behind another: from token j with k rules (their kinds, deeds, items twice) -/
abbrev zRu : Type := List (Nat × Nat × zI × zI)
/-- one rule: where it ends, whether it is right, whether it was added, what it is -/
abbrev zR1 : Type := Nat × Bool × Option (Nat × Nat × zI × zI)
def endR (tc : Nat → Nat) (kd j : Nat) (ic im : zI) : zR1 := if 6 ≤ tc j ∧ tc j ≤ 8 then (if tc (j + 1) = 18 then (j + 2, true, some (kd, tc j - 6, ic, im)) else (j + 1, false, some (kd, tc j - 6, ic, im))) else (j, false, none)
def ruR (tc : Nat → Nat) (F j : Nat) : Option zR1 :=
  if tc j ≤ 5 then (if tc (j + 1) = 9 then (pP tc F 3 3 (j + 2) [] []).bind (fun r => some (if r.2.1 = true then endR tc (tc j) r.1 r.2.2.1 r.2.2.2 else (r.1, false, none))) else some (endR tc (tc j) (j + 1) [] [])) else some (j, false, none)
def MB (ν : Nat → va_E) (ln j : Nat) (c z : Nat) (kd de bg c4 : Nat → Nat) : Nat → va_E := MT ν ln (nI c) (fun i => nI (kd i)) (fun i => nI (de i)) (fun i => nI (bg i)) j z c4
theorem MT_s52 {ν : Nat → va_E} {ln : Nat} {c : Int32} {kd : Nat → Nat} {de bg : Nat → Int32} {j z k x : Nat} {c4 : Nat → Nat} : zu (MT ν ln c (fun i => nI (kd i)) de bg j z c4) 52 (.inl (0, 8, .inl (upd (fun i => nI (kd i)) k (nI x)))) = MT ν ln c (fun i => nI (un kd k x i)) de bg j z c4 := by
  have e : upd (fun i => nI (kd i)) k (nI x) = fun i => nI (un kd k x i) := by
    funext i
    by_cases h : i = k
    · subst h; rw [upd_at, un_s]
    · rw [upd_no h, un_n h]
  unfold MT
  rw [e]
  exact pbk_z1
theorem MT_s53 {ν : Nat → va_E} {ln : Nat} {c : Int32} {de : Nat → Nat} {kd bg : Nat → Int32} {j z k x : Nat} {c4 : Nat → Nat} : zu (MT ν ln c kd (fun i => nI (de i)) bg j z c4) 53 (.inl (0, 8, .inl (upd (fun i => nI (de i)) k (nI x)))) = MT ν ln c kd (fun i => nI (un de k x i)) bg j z c4 := by
  have e : upd (fun i => nI (de i)) k (nI x) = fun i => nI (un de k x i) := by
    funext i
    by_cases h : i = k
    · subst h; rw [upd_at, un_s]
    · rw [upd_no h, un_n h]
  unfold MT
  rw [e]
  exact pbk_z2
theorem MT_s54 {ν : Nat → va_E} {ln : Nat} {c : Int32} {bg : Nat → Nat} {kd de : Nat → Int32} {j z k x : Nat} {c4 : Nat → Nat} : zu (MT ν ln c kd de (fun i => nI (bg i)) j z c4) 54 (.inl (0, 9, .inl (upd (fun i => nI (bg i)) k (nI x)))) = MT ν ln c kd de (fun i => nI (un bg k x i)) j z c4 := by
  have e : upd (fun i => nI (bg i)) k (nI x) = fun i => nI (un bg k x i) := by
    funext i
    by_cases h : i = k
    · subst h; rw [upd_at, un_s]
    · rw [upd_no h, un_n h]
  unfold MT
  rw [e]
  exact pbk_z3
set_option maxHeartbeats 4000000 in
set_option maxRecDepth 100000 in
theorem c_Bk_addRule {G : zG} {n u : Nat} {ν : Nat → va_E} {ln j c z x y : Nat} {kd de bg c4 : Nat → Nat} (hc : c < 8) (hz : z ≤ 200) : zMet G 0 M_Bk_addRule [.ref 51, .int (nI x), .int (nI y)] n u (MT ν ln (nI c) (fun i => nI (kd i)) (fun i => nI (de i)) (fun i => nI (bg i)) j z c4) n u (zE none (MT ν ln (nI (c + 1)) (fun i => nI ((un kd c x) i)) (fun i => nI ((un de c y) i)) (fun i => nI ((un bg (c + 1) z) i)) j z c4)) := by
  refine z_start (lv := [.ref 51, .int (nI x), .int (nI y)]) K_Bk_addRule rfl rfl (Nat.le_refl _) (Nat.le_refl _) (Nat.le_of_ble_eq_true rfl) rfl ?_
  refine z_al0 (pc' := 1) 0 rfl rfl ?_
  refine z_getf (pc' := 4) 1 rfl rfl f_Bk_26_0 (by first | exact MT_47 | exact MT_51 | exact MT_52 | exact MT_53 | exact MT_54 | exact MT_55 | (rw [MT_o (by decide)]; assumption)) (by rfl) ?_
  refine z_bipush (v := nI 8) (by decide) (pc' := 6) 2 rfl rfl ?_
  first | refine z_icmp_geN (pc' := 9) 3 rfl rfl (tgt := 52) rfl (by omega) (by omega) (fun h6 => ?_) (fun h6 => ?_) | refine z_icmp_ge (pc' := 9) 3 rfl rfl (tgt := 52) rfl (fun h6 => ?_) (fun h6 => ?_)
  · exfalso; omega
  · refine z_al0 (pc' := 10) 4 rfl rfl ?_
    refine z_getf (pc' := 13) 5 rfl rfl f_Bk_11_0 (by first | exact MT_47 | exact MT_51 | exact MT_52 | exact MT_53 | exact MT_54 | exact MT_55 | (rw [MT_o (by decide)]; assumption)) (by rfl) ?_
    refine z_al0 (pc' := 14) 6 rfl rfl ?_
    refine z_getf (pc' := 17) 7 rfl rfl f_Bk_26_0 (by first | exact MT_47 | exact MT_51 | exact MT_52 | exact MT_53 | exact MT_54 | exact MT_55 | (rw [MT_o (by decide)]; assumption)) (by rfl) ?_
    refine z_il1 (pc' := 18) 8 rfl rfl ?_
    refine z_iast (pc' := 19) 9 rfl rfl (by first | exact MT_47 | exact MT_51 | exact MT_52 | exact MT_53 | exact MT_54 | exact MT_55 | (rw [MT_o (by decide)]; assumption)) (by omega) (by decide) ?_
    rw [MT_s52]
    refine z_al0 (pc' := 20) 10 rfl rfl ?_
    refine z_getf (pc' := 23) 11 rfl rfl f_Bk_15_0 (by first | exact MT_47 | exact MT_51 | exact MT_52 | exact MT_53 | exact MT_54 | exact MT_55 | (rw [MT_o (by decide)]; assumption)) (by rfl) ?_
    refine z_al0 (pc' := 24) 12 rfl rfl ?_
    refine z_getf (pc' := 27) 13 rfl rfl f_Bk_26_0 (by first | exact MT_47 | exact MT_51 | exact MT_52 | exact MT_53 | exact MT_54 | exact MT_55 | (rw [MT_o (by decide)]; assumption)) (by rfl) ?_
    refine z_il2 (pc' := 28) 14 rfl rfl ?_
    refine z_iast (pc' := 29) 15 rfl rfl (by first | exact MT_47 | exact MT_51 | exact MT_52 | exact MT_53 | exact MT_54 | exact MT_55 | (rw [MT_o (by decide)]; assumption)) (by omega) (by decide) ?_
    rw [MT_s53]
    refine z_al0 (pc' := 30) 16 rfl rfl ?_
    refine z_dup rfl (pc' := 31) 17 rfl rfl ?_
    refine z_getf (pc' := 34) 18 rfl rfl f_Bk_26_0 (by first | exact MT_47 | exact MT_51 | exact MT_52 | exact MT_53 | exact MT_54 | exact MT_55 | (rw [MT_o (by decide)]; assumption)) (by rfl) ?_
    refine z_iconst (v := nI 1) (by decide) (pc' := 35) 19 rfl rfl ?_
    first | refine z_iaddN (pc' := 36) 20 rfl rfl ?_ | refine z_iadd (pc' := 36) 20 rfl rfl ?_
    refine z_putf (pc' := 39) 21 rfl rfl f_Bk_26_0 (by first | exact MT_47 | exact MT_51 | exact MT_52 | exact MT_53 | exact MT_54 | exact MT_55 | (rw [MT_o (by decide)]; assumption)) rfl rfl (by rfl) (by rfl) ?_
    dsimp only [List.set]
    rw [MT_s51]
    refine z_al0 (pc' := 40) 22 rfl rfl ?_
    refine z_getf (pc' := 43) 23 rfl rfl f_Bk_18_0 (by first | exact MT_47 | exact MT_51 | exact MT_52 | exact MT_53 | exact MT_54 | exact MT_55 | (rw [MT_o (by decide)]; assumption)) (by rfl) ?_
    refine z_al0 (pc' := 44) 24 rfl rfl ?_
    refine z_getf (pc' := 47) 25 rfl rfl f_Bk_26_0 (by first | exact MT_47 | exact MT_51 | exact MT_52 | exact MT_53 | exact MT_54 | exact MT_55 | (rw [MT_o (by decide)]; assumption)) (by rfl) ?_
    refine z_al0 (pc' := 48) 26 rfl rfl ?_
    refine z_getf (pc' := 51) 27 rfl rfl f_Bk_30_0 (by first | exact MT_47 | exact MT_51 | exact MT_52 | exact MT_53 | exact MT_54 | exact MT_55 | (rw [MT_o (by decide)]; assumption)) (by rfl) ?_
    refine z_iast (pc' := 52) 28 rfl rfl (by first | exact MT_47 | exact MT_51 | exact MT_52 | exact MT_53 | exact MT_54 | exact MT_55 | (rw [MT_o (by decide)]; assumption)) (by omega) (by decide) ?_
    rw [MT_s54]
    exact z_return 29 rfl rfl rfl rfl (by exact ⟨rfl, rfl⟩)
/-- the draft so far: count c, size z; each rule's items lie where begins says -/
def bkL (c z : Nat) (kd de bg c4 : Nat → Nat) (L : zRu) : Prop := L.length = c ∧ bg 0 = 0 ∧ bg c = z ∧ ∀ r a b ic im, L[r]? = some (a, b, ic, im) → kd r = a ∧ de r = b ∧ sg c4 (bg r) ic (bg (r + 1)) ∧ bg (r + 1) ≤ z
theorem bkL_add {c z z' x y : Nat} {kd de bg c4 c4' : Nat → Nat} {L : zRu} {ic im : zI} (h : bkL c z kd de bg c4 L) (hz : z ≤ z') (hp : ∀ i, i < z → c4' i = c4 i) (hs : sg c4' z ic z') : bkL (c + 1) z' (un kd c x) (un de c y) (un bg (c + 1) z') c4' (L ++ [(x, y, ic, im)]) := by
  obtain ⟨h1, h2, h3, h4⟩ := h
  refine ⟨by rw [List.length_append, h1]; rfl, by rw [un_n (by omega)]; exact h2, un_s, fun r a b jc jm hr => ?_⟩
  by_cases e : r < c
  · rw [List.getElem?_append_left (by omega)] at hr
    obtain ⟨g1, g2, g3, g4⟩ := h4 r a b jc jm hr
    rw [un_n (by omega), un_n (by omega), un_n (by omega), un_n (by omega)]
    exact ⟨g1, g2, sg_ext _ _ _ (fun j hj => hp j (by omega)) g3, by omega⟩
  · have hl := (List.getElem?_eq_some_iff.mp hr).1
    rw [List.length_append, h1] at hl
    have hl : r < c + 1 := hl
    have e2 : r = c := by omega
    subst e2
    rw [List.getElem?_append_right (by omega), h1, Nat.sub_self] at hr
    cases hr
    rw [un_s, un_s, un_s, un_n (by omega), h3]
    exact ⟨rfl, rfl, hs, Nat.le_refl _⟩
def aR (L : zRu) : Option (Nat × Nat × zI × zI) → zRu
  | none => L
  | some a => L ++ [a]
/-- behind a rule -/
def ruP (ν : Nat → va_E) (ln : Nat) (L : zRu) (R : zR1) : zP := fun r μ' => ∃ (c z : Nat) (kd de bg c4 : Nat → Nat), r = some (.int (zbo (R.2.1 = true))) ∧ μ' = (MT ν ln (nI c) (fun i => nI (kd i)) (fun i => nI (de i)) (fun i => nI (bg i)) R.1 z c4) ∧ z ≤ 200 ∧ c ≤ 8 ∧ (R.2.1 = true → bkL c z kd de bg c4 (aR L R.2.2) ∧ z ≤ R.1) ∧ bg 0 = 0
set_option maxHeartbeats 4000000 in
set_option maxRecDepth 100000 in
theorem c_Ta_readRule {G : zG} {n u : Nat} {ν : Nat → va_E} {ln : Nat} {tc : Nat → Nat} {N : Nat} (hT : iTk tc N) (h49 : ν 49 = .inl (0, 201, .inl (fun j => nI (tc j)))) {F j c z : Nat} {kd de bg c4 : Nat → Nat} {L : zRu} {R : zR1} (hj : j ≤ N) (hz : z ≤ j) (hc : c < 8) (hb : bkL c z kd de bg c4 L) (hp : ruR tc F j = some R) : zMet G 11 M_Ta_readRule [.ref 47, .ref 51] n u (MT ν ln (nI c) (fun i => nI (kd i)) (fun i => nI (de i)) (fun i => nI (bg i)) j z c4) n u (ruP ν ln L R) := by
  have hN := hT.1
  have htb := (hT.2.2 j).1
  have hNe : ∀ i k, tc i = k → k ≠ 25 → i ≠ N := fun i k e hk z => by rw [z, hT.2.1] at e; exact hk e.symm
  have hNj : tc j ≤ 5 → j ≠ N := fun q z => by rw [z, hT.2.1] at q; omega
  refine z_start (lv := [.ref 47, .ref 51, .retAddr 0, .retAddr 0]) K_Ta_readRule rfl rfl (Nat.le_refl _) (Nat.le_refl _) (Nat.le_of_ble_eq_true rfl) rfl ?_
  refine z_al0 (pc' := 1) 0 rfl rfl ?_
  refine z_getf (pc' := 4) 1 rfl rfl f_Ta_15_9 (by first | exact MT_47 | exact MT_51 | exact MT_52 | exact MT_53 | exact MT_54 | exact MT_55 | (rw [MT_o (by decide)]; assumption)) (by rfl) ?_
  refine z_al0 (pc' := 5) 2 rfl rfl ?_
  refine z_getf (pc' := 8) 3 rfl rfl f_Ta_28_9 (by first | exact MT_47 | exact MT_51 | exact MT_52 | exact MT_53 | exact MT_54 | exact MT_55 | (rw [MT_o (by decide)]; assumption)) (by rfl) ?_
  refine z_iald (pc' := 9) 4 rfl rfl (by first | exact MT_47 | exact MT_51 | exact MT_52 | exact MT_53 | exact MT_54 | exact MT_55 | (rw [MT_o (by decide)]; assumption)) (by omega) (by decide) ?_
  refine z_is2 rfl rfl (pc' := 10) 5 rfl rfl ?_
  refine z_il2 (pc' := 11) 6 rfl rfl ?_
  refine z_iconst (v := nI 0) (by decide) (pc' := 12) 7 rfl rfl ?_
  refine z_iconst (v := nI 5) (by decide) (pc' := 13) 8 rfl rfl ?_
  refine z_callS1 (pc' := 16) 9 rfl rfl k_Ta_76 (c_Wb_within _ _ _) (by decide) (Nat.le_refl _) (Nat.le_refl _) rfl rfl (Nat.le_of_ble_eq_true rfl) ?_
  first | refine z_if_neB (pc' := 19) 10 rfl rfl (tgt := 21) rfl (fun h16 => ?_) (fun h16 => ?_) | refine z_if_neN (pc' := 19) 10 rfl rfl (tgt := 21) rfl (by omega) (fun h16 => ?_) (fun h16 => ?_) | refine z_if_ne (pc' := 19) 10 rfl rfl (tgt := 21) rfl (fun h16 => ?_) (fun h16 => ?_)
  · have hk5 : tc j ≤ 5 := (nI_leI (by omega) (by decide)).mp h16.2
    have hjN := hNj hk5
    rw [ruR, if_pos hk5] at hp
    refine z_al0 (pc' := 22) 13 rfl rfl ?_
    refine z_dup rfl (pc' := 23) 14 rfl rfl ?_
    refine z_getf (pc' := 26) 15 rfl rfl f_Ta_28_9 (by first | exact MT_47 | exact MT_51 | exact MT_52 | exact MT_53 | exact MT_54 | exact MT_55 | (rw [MT_o (by decide)]; assumption)) (by rfl) ?_
    refine z_iconst (v := nI 1) (by decide) (pc' := 27) 16 rfl rfl ?_
    first | refine z_iaddN (pc' := 28) 17 rfl rfl ?_ | refine z_iadd (pc' := 28) 17 rfl rfl ?_
    refine z_putf (pc' := 31) 18 rfl rfl f_Ta_28_9 (by first | exact MT_47 | exact MT_51 | exact MT_52 | exact MT_53 | exact MT_54 | exact MT_55 | (rw [MT_o (by decide)]; assumption)) rfl rfl (by rfl) (by rfl) ?_
    dsimp only [List.set]
    rw [MT_s47]
    refine z_al0 (pc' := 32) 19 rfl rfl ?_
    refine z_bipush (v := nI 9) (by decide) (pc' := 34) 20 rfl rfl ?_
    refine z_callV1 (pc' := 37) 21 rfl rfl k_Ta_79 (by first | exact MT_47 | exact MT_51 | exact MT_52 | exact MT_53 | exact MT_54 | exact MT_55 | (rw [MT_o (by decide)]; assumption)) (c_Ta_reads hT h49 (by omega) (by decide)) (by decide) (Nat.le_refl _) (Nat.le_refl _) rfl rfl (Nat.le_of_ble_eq_true rfl) ?_
    first | refine z_if_eqB (pc' := 40) 22 rfl rfl (tgt := 51) rfl (fun h37 => ?_) (fun h37 => ?_) | refine z_if_eqN (pc' := 40) 22 rfl rfl (tgt := 51) rfl (by omega) (fun h37 => ?_) (fun h37 => ?_) | refine z_if_eq (pc' := 40) 22 rfl rfl (tgt := 51) rfl (fun h37 => ?_) (fun h37 => ?_)
    · rw [if_neg h37] at hp ⊢
      cases hp
      have htd := (hT.2.2 (j + 1)).1
      refine z_al0 (pc' := 52) 30 rfl rfl ?_
      refine z_getf (pc' := 55) 31 rfl rfl f_Ta_15_9 (by first | exact MT_47 | exact MT_51 | exact MT_52 | exact MT_53 | exact MT_54 | exact MT_55 | (rw [MT_o (by decide)]; assumption)) (by rfl) ?_
      refine z_al0 (pc' := 56) 32 rfl rfl ?_
      refine z_getf (pc' := 59) 33 rfl rfl f_Ta_28_9 (by first | exact MT_47 | exact MT_51 | exact MT_52 | exact MT_53 | exact MT_54 | exact MT_55 | (rw [MT_o (by decide)]; assumption)) (by rfl) ?_
      refine z_iald (pc' := 60) 34 rfl rfl (by first | exact MT_47 | exact MT_51 | exact MT_52 | exact MT_53 | exact MT_54 | exact MT_55 | (rw [MT_o (by decide)]; assumption)) (by omega) (by decide) ?_
      refine z_is3 rfl rfl (pc' := 61) 35 rfl rfl ?_
      refine z_il3 (pc' := 62) 36 rfl rfl ?_
      refine z_bipush (v := nI 6) (by decide) (pc' := 64) 37 rfl rfl ?_
      refine z_bipush (v := nI 8) (by decide) (pc' := 66) 38 rfl rfl ?_
      refine z_callS1 (pc' := 69) 39 rfl rfl k_Ta_76 (c_Wb_within _ _ _) (by decide) (Nat.le_refl _) (Nat.le_refl _) rfl rfl (Nat.le_of_ble_eq_true rfl) ?_
      first | refine z_if_neB (pc' := 72) 40 rfl rfl (tgt := 74) rfl (fun h69 => ?_) (fun h69 => ?_) | refine z_if_neN (pc' := 72) 40 rfl rfl (tgt := 74) rfl (by omega) (fun h69 => ?_) (fun h69 => ?_) | refine z_if_ne (pc' := 72) 40 rfl rfl (tgt := 74) rfl (fun h69 => ?_) (fun h69 => ?_)
      · have hdd : 6 ≤ tc (j + 1) ∧ tc (j + 1) ≤ 8 := ⟨(nI_leI (by decide) (by omega)).mp h69.1, (nI_leI (by omega) (by decide)).mp h69.2⟩
        have hdN : (j + 1) ≠ N := fun z => by rw [z, hT.2.1] at hdd; omega
        refine z_al0 (pc' := 75) 43 rfl rfl ?_
        refine z_dup rfl (pc' := 76) 44 rfl rfl ?_
        refine z_getf (pc' := 79) 45 rfl rfl f_Ta_28_9 (by first | exact MT_47 | exact MT_51 | exact MT_52 | exact MT_53 | exact MT_54 | exact MT_55 | (rw [MT_o (by decide)]; assumption)) (by rfl) ?_
        refine z_iconst (v := nI 1) (by decide) (pc' := 80) 46 rfl rfl ?_
        first | refine z_iaddN (pc' := 81) 47 rfl rfl ?_ | refine z_iadd (pc' := 81) 47 rfl rfl ?_
        refine z_putf (pc' := 84) 48 rfl rfl f_Ta_28_9 (by first | exact MT_47 | exact MT_51 | exact MT_52 | exact MT_53 | exact MT_54 | exact MT_55 | (rw [MT_o (by decide)]; assumption)) rfl rfl (by rfl) (by rfl) ?_
        dsimp only [List.set]
        rw [MT_s47]
        refine z_al1 (pc' := 85) 49 rfl rfl ?_
        refine z_il2 (pc' := 86) 50 rfl rfl ?_
        refine z_il3 (pc' := 87) 51 rfl rfl ?_
        refine z_bipush (v := nI 6) (by decide) (pc' := 89) 52 rfl rfl ?_
        first | refine z_isubN (by omega) (pc' := 90) 53 rfl rfl ?_ | refine z_isub (pc' := 90) 53 rfl rfl ?_
        refine z_callV0 (pc' := 93) 54 rfl rfl k_Ta_86 (by first | exact MT_47 | exact MT_51 | exact MT_52 | exact MT_53 | exact MT_54 | exact MT_55 | (rw [MT_o (by decide)]; assumption)) (c_Bk_addRule hc (by omega)) (by decide) (Nat.le_refl _) (Nat.le_refl _) rfl rfl (Nat.le_of_ble_eq_true rfl) ?_
        refine z_al0 (pc' := 94) 55 rfl rfl ?_
        refine z_bipush (v := nI 18) (by decide) (pc' := 96) 56 rfl rfl ?_
        refine z_callV1 (pc' := 99) 57 rfl rfl k_Ta_79 (by first | exact MT_47 | exact MT_51 | exact MT_52 | exact MT_53 | exact MT_54 | exact MT_55 | (rw [MT_o (by decide)]; assumption)) (c_Ta_reads hT h49 (by omega) (by decide)) (by decide) (Nat.le_refl _) (Nat.le_refl _) rfl rfl (Nat.le_of_ble_eq_true rfl) ?_
        exact z_ireturn 58 rfl rfl (by first | rfl | exact zbo_nar) rfl rfl (by rw [endR, if_pos hdd]; exact (Classical.em (tc ((j + 1) + 1) = 18)).elim (fun q9 => by rw [if_pos q9, if_pos q9]; exact ⟨c + 1, z, _, _, _, c4, by rw [zbo_t q9]; rfl, rfl, by omega, by omega, fun _ => ⟨bkL_add hb (by omega) (fun _ _ => rfl) rfl, by show z ≤ (j + 1) + 2; omega⟩, by rw [un_n (by omega)]; exact hb.2.1⟩) (fun q9 => by rw [if_neg q9, if_neg q9]; exact ⟨c + 1, z, _, _, _, c4, by rw [zbo_f q9]; rfl, rfl, by omega, by omega, fun q => absurd q Bool.false_ne_true, by rw [un_n (by omega)]; exact hb.2.1⟩))
      · refine z_iconst (v := nI 0) (by decide) (pc' := 73) 41 rfl rfl ?_
        exact z_ireturn 42 rfl rfl (by first | rfl | exact zbo_nar) rfl rfl (by rw [endR, if_neg (fun q => h69 ⟨nI_le q.1 (by omega), nI_le q.2 (by decide)⟩)]; exact ⟨c, z, kd, de, bg, c4, rfl, rfl, by omega, by omega, fun q => absurd q Bool.false_ne_true, hb.2.1⟩)
    · have a9 := hNe _ _ h37 (by decide)
      rw [if_pos h37] at hp ⊢
      obtain ⟨r, h1, h2⟩ := Option.bind_eq_some_iff.mp hp
      cases h2
      obtain ⟨⟨g1, g2⟩, g3⟩ := (pP_pg hT F 3 _ _ _ _ r (by decide) (by omega) h1).1 (by decide)
      refine z_al0 (pc' := 41) 23 rfl rfl ?_
      refine z_al1 (pc' := 42) 24 rfl rfl ?_
      refine z_iconst (v := nI 0) (by decide) (pc' := 43) 25 rfl rfl ?_
      refine z_callV (pc' := 46) 26 rfl rfl k_Ta_82 (by first | exact MT_47 | exact MT_51 | exact MT_52 | exact MT_53 | exact MT_54 | exact MT_55 | (rw [MT_o (by decide)]; assumption)) (c_Ta_readCondition hT h49 3 (by decide) F _ _ _ r (by omega) (by omega) h1) (by decide) (Nat.le_refl _) (Nat.le_refl _) rfl rfl (Nat.le_of_ble_eq_true rfl) (fun r43 μ43 h43 => ?_)
      obtain ⟨z9, c9, y0, y1, y2, y3⟩ := h43
      subst y0; subst y1
      dsimp only [Option.toList_some, List.cons_append, List.nil_append]
      first | refine z_if_neB (pc' := 49) 27 rfl rfl (tgt := 51) rfl (fun h46 => ?_) (fun h46 => ?_) | refine z_if_neN (pc' := 49) 27 rfl rfl (tgt := 51) rfl (by omega) (fun h46 => ?_) (fun h46 => ?_) | refine z_if_ne (pc' := 49) 27 rfl rfl (tgt := 51) rfl (fun h46 => ?_) (fun h46 => ?_)
      · have y3 := y3 h46
        have g2 := g2 h46
        have g3 := g3 h46
        have htd := (hT.2.2 r.1).1
        have y3a := y3.1
        refine z_al0 (pc' := 52) 30 rfl rfl ?_
        refine z_getf (pc' := 55) 31 rfl rfl f_Ta_15_9 (by first | exact MT_47 | exact MT_51 | exact MT_52 | exact MT_53 | exact MT_54 | exact MT_55 | (rw [MT_o (by decide)]; assumption)) (by rfl) ?_
        refine z_al0 (pc' := 56) 32 rfl rfl ?_
        refine z_getf (pc' := 59) 33 rfl rfl f_Ta_28_9 (by first | exact MT_47 | exact MT_51 | exact MT_52 | exact MT_53 | exact MT_54 | exact MT_55 | (rw [MT_o (by decide)]; assumption)) (by rfl) ?_
        refine z_iald (pc' := 60) 34 rfl rfl (by first | exact MT_47 | exact MT_51 | exact MT_52 | exact MT_53 | exact MT_54 | exact MT_55 | (rw [MT_o (by decide)]; assumption)) (by omega) (by decide) ?_
        refine z_is3 rfl rfl (pc' := 61) 35 rfl rfl ?_
        refine z_il3 (pc' := 62) 36 rfl rfl ?_
        refine z_bipush (v := nI 6) (by decide) (pc' := 64) 37 rfl rfl ?_
        refine z_bipush (v := nI 8) (by decide) (pc' := 66) 38 rfl rfl ?_
        refine z_callS1 (pc' := 69) 39 rfl rfl k_Ta_76 (c_Wb_within _ _ _) (by decide) (Nat.le_refl _) (Nat.le_refl _) rfl rfl (Nat.le_of_ble_eq_true rfl) ?_
        first | refine z_if_neB (pc' := 72) 40 rfl rfl (tgt := 74) rfl (fun h69 => ?_) (fun h69 => ?_) | refine z_if_neN (pc' := 72) 40 rfl rfl (tgt := 74) rfl (by omega) (fun h69 => ?_) (fun h69 => ?_) | refine z_if_ne (pc' := 72) 40 rfl rfl (tgt := 74) rfl (fun h69 => ?_) (fun h69 => ?_)
        · have hdd : 6 ≤ tc r.1 ∧ tc r.1 ≤ 8 := ⟨(nI_leI (by decide) (by omega)).mp h69.1, (nI_leI (by omega) (by decide)).mp h69.2⟩
          have hdN : r.1 ≠ N := fun z => by rw [z, hT.2.1] at hdd; omega
          refine z_al0 (pc' := 75) 43 rfl rfl ?_
          refine z_dup rfl (pc' := 76) 44 rfl rfl ?_
          refine z_getf (pc' := 79) 45 rfl rfl f_Ta_28_9 (by first | exact MT_47 | exact MT_51 | exact MT_52 | exact MT_53 | exact MT_54 | exact MT_55 | (rw [MT_o (by decide)]; assumption)) (by rfl) ?_
          refine z_iconst (v := nI 1) (by decide) (pc' := 80) 46 rfl rfl ?_
          first | refine z_iaddN (pc' := 81) 47 rfl rfl ?_ | refine z_iadd (pc' := 81) 47 rfl rfl ?_
          refine z_putf (pc' := 84) 48 rfl rfl f_Ta_28_9 (by first | exact MT_47 | exact MT_51 | exact MT_52 | exact MT_53 | exact MT_54 | exact MT_55 | (rw [MT_o (by decide)]; assumption)) rfl rfl (by rfl) (by rfl) ?_
          dsimp only [List.set]
          rw [MT_s47]
          refine z_al1 (pc' := 85) 49 rfl rfl ?_
          refine z_il2 (pc' := 86) 50 rfl rfl ?_
          refine z_il3 (pc' := 87) 51 rfl rfl ?_
          refine z_bipush (v := nI 6) (by decide) (pc' := 89) 52 rfl rfl ?_
          first | refine z_isubN (by omega) (pc' := 90) 53 rfl rfl ?_ | refine z_isub (pc' := 90) 53 rfl rfl ?_
          refine z_callV0 (pc' := 93) 54 rfl rfl k_Ta_86 (by first | exact MT_47 | exact MT_51 | exact MT_52 | exact MT_53 | exact MT_54 | exact MT_55 | (rw [MT_o (by decide)]; assumption)) (c_Bk_addRule hc (by omega)) (by decide) (Nat.le_refl _) (Nat.le_refl _) rfl rfl (Nat.le_of_ble_eq_true rfl) ?_
          refine z_al0 (pc' := 94) 55 rfl rfl ?_
          refine z_bipush (v := nI 18) (by decide) (pc' := 96) 56 rfl rfl ?_
          refine z_callV1 (pc' := 99) 57 rfl rfl k_Ta_79 (by first | exact MT_47 | exact MT_51 | exact MT_52 | exact MT_53 | exact MT_54 | exact MT_55 | (rw [MT_o (by decide)]; assumption)) (c_Ta_reads hT h49 (by omega) (by decide)) (by decide) (Nat.le_refl _) (Nat.le_refl _) rfl rfl (Nat.le_of_ble_eq_true rfl) ?_
          exact z_ireturn 58 rfl rfl (by first | rfl | exact zbo_nar) rfl rfl (by rw [if_pos h46, endR, if_pos hdd]; exact (Classical.em (tc (r.1 + 1) = 18)).elim (fun q9 => by rw [if_pos q9, if_pos q9]; exact ⟨c + 1, z9, _, _, _, c9, by rw [zbo_t q9]; rfl, rfl, by omega, by omega, fun _ => ⟨bkL_add hb (by omega) y3.2.1 y3.2.2, by show z9 ≤ r.1 + 2; omega⟩, by rw [un_n (by omega)]; exact hb.2.1⟩) (fun q9 => by rw [if_neg q9, if_neg q9]; exact ⟨c + 1, z9, _, _, _, c9, by rw [zbo_f q9]; rfl, rfl, by omega, by omega, fun q => absurd q Bool.false_ne_true, by rw [un_n (by omega)]; exact hb.2.1⟩))
        · refine z_iconst (v := nI 0) (by decide) (pc' := 73) 41 rfl rfl ?_
          exact z_ireturn 42 rfl rfl (by first | rfl | exact zbo_nar) rfl rfl (by rw [if_pos h46, endR, if_neg (fun q => h69 ⟨nI_le q.1 (by omega), nI_le q.2 (by decide)⟩)]; exact ⟨c, z9, kd, de, bg, c9, rfl, rfl, by omega, by omega, fun q => absurd q Bool.false_ne_true, hb.2.1⟩)
      · refine z_iconst (v := nI 0) (by decide) (pc' := 50) 28 rfl rfl ?_
        exact z_ireturn 29 rfl rfl (by first | rfl | exact zbo_nar) rfl rfl (by rw [if_neg h46]; exact ⟨c, z9, kd, de, bg, c9, rfl, rfl, y2, by omega, fun q => absurd q Bool.false_ne_true, hb.2.1⟩)
  · refine z_iconst (v := nI 0) (by decide) (pc' := 20) 11 rfl rfl ?_
    exact z_ireturn 12 rfl rfl (by first | rfl | exact zbo_nar) rfl rfl (by rw [show ruR tc F j = some (j, false, none) from if_neg (fun z => h16 ⟨nI_pos' (by omega), nI_le z (by decide)⟩)] at hp; cases hp; exact ⟨c, z, kd, de, bg, c4, rfl, rfl, by omega, by omega, fun q => absurd q Bool.false_ne_true, hb.2.1⟩)
