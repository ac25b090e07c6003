/-! ===== the reference as it is made ===== -/
theorem ite09 {q : Prop} (h : Decidable q) {a b : Int32} (ha : a = 0) (hb : b = 0) : @ite Int32 q h a b = 0 := by
  by_cases e : q
  · rw [if_pos e]; exact ha
  · rw [if_neg e]; exact hb
theorem mk09 : mk S09 0 z9 z9 0 (nI 1) 0 (fun _ => 0) = upd (upd (fun _ => 0) 0 (nI 12)) 5 (nI 1) := by
  funext i
  by_cases h0 : i = 0
  · subst h0; rfl
  by_cases h5 : i = 5
  · subst h5; rfl
  have e1 : upd (upd (fun _ => 0) 0 (nI 12)) 5 (nI 1) i = (0 : Int32) := by unfold upd; rw [if_neg h5, if_neg h0]
  have e2 : ∀ k j, k ≠ 0 → nI (S09 k j) = (0 : Int32) := fun k j hk => by rw [S09_0 hk]; rfl
  rw [e1]
  unfold mk
  rw [if_neg h0, if_neg h5]
  repeat' (first | exact ite09 _ rfl rfl | refine ite09 _ ?_ ?_)
  all_goals first | rfl | (apply e2; decide)
theorem isShM09 {μ : Nat → va_E} (h1 : μ 99 = .inl (0, 4, .inl (up4 (-1)))) (h2 : μ 100 = .inl (0, 4, .inl (fun _ => 0))) (h3 : μ 101 = .inl (2, 160, .inr (.inl (fun _ => 0)))) : isShM μ τ09 := ⟨fun _ => 0, by rw [hd09]; exact h1, h2, h3, fun sh i _ h => absurd h (Nat.not_lt_zero _), iT09⟩
theorem isHeM09 {μ : Nat → va_E} (h1 : μ 102 = .inl (0, 4, .inl (up4 (nI 2)))) (h2 : μ 103 = .inl (0, 4, .inl (fun _ => 0))) (h3 : μ 104 = .inl (0, 4, .inl (fun _ => 0))) : isHeM μ σ09 := ⟨fun _ => 0, fun _ => 0, by rw [si09]; exact h1, h2, h3, fun j => ⟨by show (if j < 4 then 2 else 0) ≤ 2; split <;> decide, fun _ => rfl, fun _ => ⟨rfl, rfl⟩⟩⟩
theorem fin_Mo {μ : Nat → va_E} (e88 : μ 88 = mob (fun _ => 0)) (e89 : μ 89 = .inl (0, 618, .inl (upd (upd (fun _ => 0) 0 (nI 12)) 5 (nI 1)))) (e90 : μ 90 = .inl (0, 618, .inl (fun _ => 0))) (e91 : μ 91 = .inl (0, 618, .inl (fun _ => 0))) (e92 : μ 92 = .inl (0, 200, .inl (fun _ => 0))) (e93 : μ 93 = .inl (1, 100, .inl (fun _ => 0))) (e94 : μ 94 = .inl (0, 6, .inl (fun _ => 0))) (e95 : μ 95 = .inl (0, 6, .inl (fun _ => 0))) (e96 : μ 96 = .inl (0, 2472, .inl (fun _ => 0))) (e97 : μ 97 = .inl (0, 618, .inl (fun _ => 0))) (e98 : μ 98 = .inl (0, 12, .inl (fun _ => 0))) (e99 : μ 99 = .inl (0, 4, .inl (up4 (-1)))) (e100 : μ 100 = .inl (0, 4, .inl (fun _ => 0))) (e101 : μ 101 = .inl (2, 160, .inr (.inl (fun _ => 0)))) (e102 : μ 102 = .inl (0, 4, .inl (up4 (nI 2)))) (e103 : μ 103 = .inl (0, 4, .inl (fun _ => 0))) (e104 : μ 104 = .inl (0, 4, .inl (fun _ => 0))) (e105 : μ 105 = .inl (0, 30, .inl (fun _ => 0))) : mSt μ A09 :=
  ⟨fun _ => 0, ⟨⟨fun _ => 0, by rw [mk09]; exact e89, dzM09⟩, e88, ⟨_, e93⟩, ⟨_, e91⟩, ⟨_, e94⟩, ⟨_, e95⟩, ⟨_, e96⟩, ⟨_, e97⟩, iK09⟩, ⟨rfl, ⟨_, e90⟩, fun h => absurd h (by decide)⟩, ⟨rfl, e98, by decide⟩, rfl, e92, isShM09 e99 e100 e101, isHeM09 e102 e103 e104, rfl, e105⟩
set_option maxHeartbeats 4000000 in
set_option maxRecDepth 100000 in
theorem c_Mo_init {G : zG} {u : Nat} {μ : Nat → va_E} (hm : μ 88 = .inr (12, [.null, .null, .null, .int 0, .null, .int 0, .int 0, .int 0, .int 0, .int 0, .int 0, .int 0, .int 0, .null, .int 0, .null, .null, .int 0, .int 0, .int 0, .int 0, .null, .null, .int 0, .null, .null, .null, .null, .null, .null, .null, .null, .int 0, .int 0])) : zMet G 1 M_Mo_init [.ref 88] 89 u μ 106 (u + 5478) (fun r μ' => r = none ∧ mSt μ' A09 ∧ ∀ i, i < 88 ∨ 106 ≤ i → μ' i = μ i) := by
  refine z_start (lv := [.ref 88]) K_Mo_init rfl rfl (by omega) (by omega) (Nat.le_of_ble_eq_true rfl) rfl ?_
  refine z_al0 (pc' := 1) 0 rfl rfl ?_
  refine z_objInit (pc' := 4) 1 rfl rfl (by decide) ko_Mo_1 ko_ins ko_cod (Nat.le_of_ble_eq_true rfl) ?_
  refine z_al0 (pc' := 5) 2 rfl rfl ?_
  refine z_sipush (v := nI 618) (by decide) (pc' := 8) 3 rfl rfl ?_
  refine z_newa (pc' := 10) (ty := .int) (kd := 0) (a0 := (_, .inl (fun _ => 0))) 4 rfl rfl rfl (by intro _ h; cases h) rfl ka_int (fun _ => by rfl) rfl (by decide) (by omega) (by omega) ?_
  refine z_putF (pc' := 13) 5 rfl rfl rfl f_Mo_9_12 (by repeat (first | exact zu_s | assumption | rw [zu_n (by omega)])) rfl rfl (by rfl) (by rfl) ?_
  dsimp only [List.set]
  refine z_al0 (pc' := 14) 6 rfl rfl ?_
  refine z_sipush (v := nI 618) (by decide) (pc' := 17) 7 rfl rfl ?_
  refine z_newa (pc' := 19) (ty := .int) (kd := 0) (a0 := (_, .inl (fun _ => 0))) 8 rfl rfl rfl (by intro _ h; cases h) rfl ka_int (fun _ => by rfl) rfl (by decide) (by omega) (by omega) ?_
  refine z_putF (pc' := 22) 9 rfl rfl rfl f_Mo_13_12 (by repeat (first | exact zu_s | assumption | rw [zu_n (by omega)])) rfl rfl (by rfl) (by rfl) ?_
  dsimp only [List.set]
  refine z_al0 (pc' := 23) 10 rfl rfl ?_
  refine z_sipush (v := nI 618) (by decide) (pc' := 26) 11 rfl rfl ?_
  refine z_newa (pc' := 28) (ty := .int) (kd := 0) (a0 := (_, .inl (fun _ => 0))) 12 rfl rfl rfl (by intro _ h; cases h) rfl ka_int (fun _ => by rfl) rfl (by decide) (by omega) (by omega) ?_
  refine z_putF (pc' := 31) 13 rfl rfl rfl f_Mo_16_12 (by repeat (first | exact zu_s | assumption | rw [zu_n (by omega)])) rfl rfl (by rfl) (by rfl) ?_
  dsimp only [List.set]
  refine z_al0 (pc' := 32) 14 rfl rfl ?_
  refine z_sipush (v := nI 200) (by decide) (pc' := 35) 15 rfl rfl ?_
  refine z_newa (pc' := 37) (ty := .int) (kd := 0) (a0 := (_, .inl (fun _ => 0))) 16 rfl rfl rfl (by intro _ h; cases h) rfl ka_int (fun _ => by rfl) rfl (by decide) (by omega) (by omega) ?_
  refine z_putF (pc' := 40) 17 rfl rfl rfl f_Mo_19_12 (by repeat (first | exact zu_s | assumption | rw [zu_n (by omega)])) rfl rfl (by rfl) (by rfl) ?_
  dsimp only [List.set]
  refine z_al0 (pc' := 41) 18 rfl rfl ?_
  refine z_bipush (v := nI 100) (by decide) (pc' := 43) 19 rfl rfl ?_
  refine z_newa (pc' := 45) (ty := .boolean) (kd := 1) (a0 := (_, .inl (fun _ => 0))) 20 rfl rfl rfl (by intro _ h; cases h) rfl ka_boo (fun _ => by rfl) rfl (by decide) (by omega) (by omega) ?_
  refine z_putF (pc' := 48) 21 rfl rfl rfl f_Mo_22_12 (by repeat (first | exact zu_s | assumption | rw [zu_n (by omega)])) rfl rfl (by rfl) (by rfl) ?_
  dsimp only [List.set]
  refine z_al0 (pc' := 49) 22 rfl rfl ?_
  refine z_bipush (v := nI 6) (by decide) (pc' := 51) 23 rfl rfl ?_
  refine z_newa (pc' := 53) (ty := .int) (kd := 0) (a0 := (_, .inl (fun _ => 0))) 24 rfl rfl rfl (by intro _ h; cases h) rfl ka_int (fun _ => by rfl) rfl (by decide) (by omega) (by omega) ?_
  refine z_putF (pc' := 56) 25 rfl rfl rfl f_Mo_26_12 (by repeat (first | exact zu_s | assumption | rw [zu_n (by omega)])) rfl rfl (by rfl) (by rfl) ?_
  dsimp only [List.set]
  refine z_al0 (pc' := 57) 26 rfl rfl ?_
  refine z_bipush (v := nI 6) (by decide) (pc' := 59) 27 rfl rfl ?_
  refine z_newa (pc' := 61) (ty := .int) (kd := 0) (a0 := (_, .inl (fun _ => 0))) 28 rfl rfl rfl (by intro _ h; cases h) rfl ka_int (fun _ => by rfl) rfl (by decide) (by omega) (by omega) ?_
  refine z_putF (pc' := 64) 29 rfl rfl rfl f_Mo_29_12 (by repeat (first | exact zu_s | assumption | rw [zu_n (by omega)])) rfl rfl (by rfl) (by rfl) ?_
  dsimp only [List.set]
  refine z_al0 (pc' := 65) 30 rfl rfl ?_
  refine z_sipush (v := nI 2472) (by decide) (pc' := 68) 31 rfl rfl ?_
  refine z_newa (pc' := 70) (ty := .int) (kd := 0) (a0 := (_, .inl (fun _ => 0))) 32 rfl rfl rfl (by intro _ h; cases h) rfl ka_int (fun _ => by rfl) rfl (by decide) (by omega) (by omega) ?_
  refine z_putF (pc' := 73) 33 rfl rfl rfl f_Mo_32_12 (by repeat (first | exact zu_s | assumption | rw [zu_n (by omega)])) rfl rfl (by rfl) (by rfl) ?_
  dsimp only [List.set]
  refine z_al0 (pc' := 74) 34 rfl rfl ?_
  refine z_sipush (v := nI 618) (by decide) (pc' := 77) 35 rfl rfl ?_
  refine z_newa (pc' := 79) (ty := .int) (kd := 0) (a0 := (_, .inl (fun _ => 0))) 36 rfl rfl rfl (by intro _ h; cases h) rfl ka_int (fun _ => by rfl) rfl (by decide) (by omega) (by omega) ?_
  refine z_putF (pc' := 82) 37 rfl rfl rfl f_Mo_35_12 (by repeat (first | exact zu_s | assumption | rw [zu_n (by omega)])) rfl rfl (by rfl) (by rfl) ?_
  dsimp only [List.set]
  refine z_al0 (pc' := 83) 38 rfl rfl ?_
  refine z_bipush (v := nI 12) (by decide) (pc' := 85) 39 rfl rfl ?_
  refine z_newa (pc' := 87) (ty := .int) (kd := 0) (a0 := (_, .inl (fun _ => 0))) 40 rfl rfl rfl (by intro _ h; cases h) rfl ka_int (fun _ => by rfl) rfl (by decide) (by omega) (by omega) ?_
  refine z_putF (pc' := 90) 41 rfl rfl rfl f_Mo_38_12 (by repeat (first | exact zu_s | assumption | rw [zu_n (by omega)])) rfl rfl (by rfl) (by rfl) ?_
  dsimp only [List.set]
  refine z_al0 (pc' := 91) 42 rfl rfl ?_
  refine z_iconst (v := nI 4) (by decide) (pc' := 92) 43 rfl rfl ?_
  refine z_newa (pc' := 94) (ty := .int) (kd := 0) (a0 := (_, .inl (fun _ => 0))) 44 rfl rfl rfl (by intro _ h; cases h) rfl ka_int (fun _ => by rfl) rfl (by decide) (by omega) (by omega) ?_
  refine z_dup rfl (pc' := 95) 45 rfl rfl ?_
  refine z_iconst (v := nI 0) (by decide) (pc' := 96) 46 rfl rfl ?_
  refine z_iconst (v := (-1)) (by decide) (pc' := 97) 47 rfl rfl ?_
  refine z_iast (pc' := 98) 48 rfl rfl (by repeat (first | exact zu_s | assumption | rw [zu_n (by omega)])) (by omega) (by decide) ?_
  refine z_dup rfl (pc' := 99) 49 rfl rfl ?_
  refine z_iconst (v := nI 1) (by decide) (pc' := 100) 50 rfl rfl ?_
  refine z_iconst (v := (-1)) (by decide) (pc' := 101) 51 rfl rfl ?_
  refine z_iast (pc' := 102) 52 rfl rfl (by repeat (first | exact zu_s | assumption | rw [zu_n (by omega)])) (by omega) (by decide) ?_
  refine z_dup rfl (pc' := 103) 53 rfl rfl ?_
  refine z_iconst (v := nI 2) (by decide) (pc' := 104) 54 rfl rfl ?_
  refine z_iconst (v := (-1)) (by decide) (pc' := 105) 55 rfl rfl ?_
  refine z_iast (pc' := 106) 56 rfl rfl (by repeat (first | exact zu_s | assumption | rw [zu_n (by omega)])) (by omega) (by decide) ?_
  refine z_dup rfl (pc' := 107) 57 rfl rfl ?_
  refine z_iconst (v := nI 3) (by decide) (pc' := 108) 58 rfl rfl ?_
  refine z_iconst (v := (-1)) (by decide) (pc' := 109) 59 rfl rfl ?_
  refine z_iast (pc' := 110) 60 rfl rfl (by repeat (first | exact zu_s | assumption | rw [zu_n (by omega)])) (by omega) (by decide) ?_
  refine z_putF (pc' := 113) 61 rfl rfl rfl f_Mo_41_12 (by repeat (first | exact zu_s | assumption | rw [zu_n (by omega)])) rfl rfl (by rfl) (by rfl) ?_
  dsimp only [List.set]
  refine z_al0 (pc' := 114) 62 rfl rfl ?_
  refine z_iconst (v := nI 4) (by decide) (pc' := 115) 63 rfl rfl ?_
  refine z_newa (pc' := 117) (ty := .int) (kd := 0) (a0 := (_, .inl (fun _ => 0))) 64 rfl rfl rfl (by intro _ h; cases h) rfl ka_int (fun _ => by rfl) rfl (by decide) (by omega) (by omega) ?_
  refine z_putF (pc' := 120) 65 rfl rfl rfl f_Mo_44_12 (by repeat (first | exact zu_s | assumption | rw [zu_n (by omega)])) rfl rfl (by rfl) (by rfl) ?_
  dsimp only [List.set]
  refine z_al0 (pc' := 121) 66 rfl rfl ?_
  refine z_sipush (v := nI 160) (by decide) (pc' := 124) 67 rfl rfl ?_
  refine z_newa (pc' := 126) (ty := .long) (kd := 2) (a0 := (_, .inr (.inl (fun _ => 0)))) 68 rfl rfl rfl (by intro _ h; cases h) rfl ka_lon (fun _ => by rfl) rfl (by decide) (by omega) (by omega) ?_
  refine z_putF (pc' := 129) 69 rfl rfl rfl f_Mo_47_12 (by repeat (first | exact zu_s | assumption | rw [zu_n (by omega)])) rfl rfl (by rfl) (by rfl) ?_
  dsimp only [List.set]
  refine z_al0 (pc' := 130) 70 rfl rfl ?_
  refine z_iconst (v := nI 4) (by decide) (pc' := 131) 71 rfl rfl ?_
  refine z_newa (pc' := 133) (ty := .int) (kd := 0) (a0 := (_, .inl (fun _ => 0))) 72 rfl rfl rfl (by intro _ h; cases h) rfl ka_int (fun _ => by rfl) rfl (by decide) (by omega) (by omega) ?_
  refine z_dup rfl (pc' := 134) 73 rfl rfl ?_
  refine z_iconst (v := nI 0) (by decide) (pc' := 135) 74 rfl rfl ?_
  refine z_iconst (v := nI 2) (by decide) (pc' := 136) 75 rfl rfl ?_
  refine z_iast (pc' := 137) 76 rfl rfl (by repeat (first | exact zu_s | assumption | rw [zu_n (by omega)])) (by omega) (by decide) ?_
  refine z_dup rfl (pc' := 138) 77 rfl rfl ?_
  refine z_iconst (v := nI 1) (by decide) (pc' := 139) 78 rfl rfl ?_
  refine z_iconst (v := nI 2) (by decide) (pc' := 140) 79 rfl rfl ?_
  refine z_iast (pc' := 141) 80 rfl rfl (by repeat (first | exact zu_s | assumption | rw [zu_n (by omega)])) (by omega) (by decide) ?_
  refine z_dup rfl (pc' := 142) 81 rfl rfl ?_
  refine z_iconst (v := nI 2) (by decide) (pc' := 143) 82 rfl rfl ?_
  refine z_iconst (v := nI 2) (by decide) (pc' := 144) 83 rfl rfl ?_
  refine z_iast (pc' := 145) 84 rfl rfl (by repeat (first | exact zu_s | assumption | rw [zu_n (by omega)])) (by omega) (by decide) ?_
  refine z_dup rfl (pc' := 146) 85 rfl rfl ?_
  refine z_iconst (v := nI 3) (by decide) (pc' := 147) 86 rfl rfl ?_
  refine z_iconst (v := nI 2) (by decide) (pc' := 148) 87 rfl rfl ?_
  refine z_iast (pc' := 149) 88 rfl rfl (by repeat (first | exact zu_s | assumption | rw [zu_n (by omega)])) (by omega) (by decide) ?_
  refine z_putF (pc' := 152) 89 rfl rfl rfl f_Mo_51_12 (by repeat (first | exact zu_s | assumption | rw [zu_n (by omega)])) rfl rfl (by rfl) (by rfl) ?_
  dsimp only [List.set]
  refine z_al0 (pc' := 153) 90 rfl rfl ?_
  refine z_iconst (v := nI 4) (by decide) (pc' := 154) 91 rfl rfl ?_
  refine z_newa (pc' := 156) (ty := .int) (kd := 0) (a0 := (_, .inl (fun _ => 0))) 92 rfl rfl rfl (by intro _ h; cases h) rfl ka_int (fun _ => by rfl) rfl (by decide) (by omega) (by omega) ?_
  refine z_putF (pc' := 159) 93 rfl rfl rfl f_Mo_54_12 (by repeat (first | exact zu_s | assumption | rw [zu_n (by omega)])) rfl rfl (by rfl) (by rfl) ?_
  dsimp only [List.set]
  refine z_al0 (pc' := 160) 94 rfl rfl ?_
  refine z_iconst (v := nI 4) (by decide) (pc' := 161) 95 rfl rfl ?_
  refine z_newa (pc' := 163) (ty := .int) (kd := 0) (a0 := (_, .inl (fun _ => 0))) 96 rfl rfl rfl (by intro _ h; cases h) rfl ka_int (fun _ => by rfl) rfl (by decide) (by omega) (by omega) ?_
  refine z_putF (pc' := 166) 97 rfl rfl rfl f_Mo_57_12 (by repeat (first | exact zu_s | assumption | rw [zu_n (by omega)])) rfl rfl (by rfl) (by rfl) ?_
  dsimp only [List.set]
  refine z_al0 (pc' := 167) 98 rfl rfl ?_
  refine z_bipush (v := nI 30) (by decide) (pc' := 169) 99 rfl rfl ?_
  refine z_newa (pc' := 171) (ty := .int) (kd := 0) (a0 := (_, .inl (fun _ => 0))) 100 rfl rfl rfl (by intro _ h; cases h) rfl ka_int (fun _ => by rfl) rfl (by decide) (by omega) (by omega) ?_
  refine z_putF (pc' := 174) 101 rfl rfl rfl f_Mo_60_12 (by repeat (first | exact zu_s | assumption | rw [zu_n (by omega)])) rfl rfl (by rfl) (by rfl) ?_
  dsimp only [List.set]
  refine z_al0 (pc' := 175) 102 rfl rfl ?_
  refine z_getf (pc' := 178) 103 rfl rfl f_Mo_9_12 (by repeat (first | exact zu_s | assumption | rw [zu_n (by omega)])) (by rfl) ?_
  refine z_iconst (v := nI 0) (by decide) (pc' := 179) 104 rfl rfl ?_
  refine z_bipush (v := nI 12) (by decide) (pc' := 181) 105 rfl rfl ?_
  refine z_iast (pc' := 182) 106 rfl rfl (by repeat (first | exact zu_s | assumption | rw [zu_n (by omega)])) (by omega) (by decide) ?_
  refine z_al0 (pc' := 183) 107 rfl rfl ?_
  refine z_getf (pc' := 186) 108 rfl rfl f_Mo_9_12 (by repeat (first | exact zu_s | assumption | rw [zu_n (by omega)])) (by rfl) ?_
  refine z_iconst (v := nI 5) (by decide) (pc' := 187) 109 rfl rfl ?_
  refine z_iconst (v := nI 1) (by decide) (pc' := 188) 110 rfl rfl ?_
  refine z_iast (pc' := 189) 111 rfl rfl (by repeat (first | exact zu_s | assumption | rw [zu_n (by omega)])) (by omega) (by decide) ?_
  refine z_return 112 rfl rfl (by omega) (by omega) ⟨rfl, ?_, ?_⟩
  · refine fin_Mo ?_ ?_ ?_ ?_ ?_ ?_ ?_ ?_ ?_ ?_ ?_ ?_ ?_ ?_ ?_ ?_ ?_ ?_
    · (repeat (first | exact zu_s | rw [zu_n (by decide)]))
    · (repeat (first | exact zu_s | rw [zu_n (by decide)]))
    · (repeat (first | exact zu_s | rw [zu_n (by decide)]))
    · (repeat (first | exact zu_s | rw [zu_n (by decide)]))
    · (repeat (first | exact zu_s | rw [zu_n (by decide)]))
    · (repeat (first | exact zu_s | rw [zu_n (by decide)]))
    · (repeat (first | exact zu_s | rw [zu_n (by decide)]))
    · (repeat (first | exact zu_s | rw [zu_n (by decide)]))
    · (repeat (first | exact zu_s | rw [zu_n (by decide)]))
    · (repeat (first | exact zu_s | rw [zu_n (by decide)]))
    · (repeat (first | exact zu_s | rw [zu_n (by decide)]))
    · (repeat (first | exact zu_s | rw [zu_n (by decide)]))
    · (repeat (first | exact zu_s | rw [zu_n (by decide)]))
    · (repeat (first | exact zu_s | rw [zu_n (by decide)]))
    · (repeat (first | exact zu_s | rw [zu_n (by decide)]))
    · (repeat (first | exact zu_s | rw [zu_n (by decide)]))
    · (repeat (first | exact zu_s | rw [zu_n (by decide)]))
    · (repeat (first | exact zu_s | rw [zu_n (by decide)]))
  · intro i hi; (repeat (rw [zu_n (by omega)]))
