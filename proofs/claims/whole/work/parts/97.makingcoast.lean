set_option maxHeartbeats 4000000 in
set_option maxRecDepth 100000 in
theorem c_Co_init {G : zG} {n u a : Nat} {μ : Nat → va_E} (ha : a < n) (hm : μ a = .inr (3, [.int 0, .null, .null, .null, .int 0, .null, .null, .null, .null, .int 0, .int 0, .int 0, .null, .null, .int 0, .null, .null])) : zMet G 2 M_Co_init [.ref a] n u μ (n + 18) (u + 325) (mkd μ a n 18 (.inr (3, [.int 0, .ref n, .ref (n + 1), .ref (n + 2), .int 0, .ref (n + 3), .ref (n + 4), .ref (n + 5), .ref (n + 6), .int (nI 12), .int 0, .int (nI 1), .ref (n + 7), .ref (n + 11), .int 0, .ref (n + 16), .ref (n + 17)])) (fun j => if j < 7 then .inl (0, 6, .inl (fun _ => 0)) else if j = 7 then .inr (4, [.int 0, .ref (n + 8), .ref (n + 9), .int 0, .ref (n + 10)]) else if j < 10 then .inl (0, 6, .inl (fun _ => 0)) else if j = 10 then .inl (0, 5, .inl (fun _ => 0)) else if j = 11 then .inr (0, [.int 0, .ref (n + 12), .ref (n + 13), .ref (n + 14), .ref (n + 15), .int 0]) else if j < 14 then .inl (0, 8, .inl (fun _ => 0)) else if j = 14 then .inl (0, 9, .inl (fun _ => 0)) else if j = 15 then .inl (0, 200, .inl (fun _ => 0)) else if j = 16 then .inl (0, 24, .inl (fun _ => 0)) else .inl (0, 6, .inl (fun _ => 0)))) := by
  refine z_start (lv := [.ref a]) K_Co_init rfl rfl (by omega) (by omega) (Nat.le_of_ble_eq_true rfl) rfl ?_
  refine z_al0 (pc' := 1) 0 rfl rfl ?_
  refine z_objInit (pc' := 4) 1 rfl rfl (by decide) ko_Co_3 ko_ins ko_cod (Nat.le_of_ble_eq_true rfl) ?_
  refine z_al0 (pc' := 5) 2 rfl rfl ?_
  refine z_bipush (v := nI 6) (by decide) (pc' := 7) 3 rfl rfl ?_
  refine z_newa (pc' := 9) (ty := .int) (kd := 0) (a0 := (_, .inl (fun _ => 0))) 4 rfl rfl rfl (by intro _ h; cases h) rfl ka_int (fun _ => by rfl) rfl (by decide) (by omega) (by omega) ?_
  refine z_putF (pc' := 12) 5 rfl rfl rfl f_Co_9_3 (by first | assumption | exact zu_s | (rw [zu_n (by omega)]; first | assumption | exact zu_s | (rw [zu_n (by omega)]; first | assumption | exact zu_s))) rfl rfl (by rfl) (by rfl) ?_
  dsimp only [List.set]
  refine z_al0 (pc' := 13) 6 rfl rfl ?_
  refine z_bipush (v := nI 6) (by decide) (pc' := 15) 7 rfl rfl ?_
  refine z_newa (pc' := 17) (ty := .int) (kd := 0) (a0 := (_, .inl (fun _ => 0))) 8 rfl rfl rfl (by intro _ h; cases h) rfl ka_int (fun _ => by rfl) rfl (by decide) (by omega) (by omega) ?_
  refine z_putF (pc' := 20) 9 rfl rfl rfl f_Co_15_3 (by first | assumption | exact zu_s | (rw [zu_n (by omega)]; first | assumption | exact zu_s | (rw [zu_n (by omega)]; first | assumption | exact zu_s))) rfl rfl (by rfl) (by rfl) ?_
  dsimp only [List.set]
  refine z_al0 (pc' := 21) 10 rfl rfl ?_
  refine z_bipush (v := nI 6) (by decide) (pc' := 23) 11 rfl rfl ?_
  refine z_newa (pc' := 25) (ty := .int) (kd := 0) (a0 := (_, .inl (fun _ => 0))) 12 rfl rfl rfl (by intro _ h; cases h) rfl ka_int (fun _ => by rfl) rfl (by decide) (by omega) (by omega) ?_
  refine z_putF (pc' := 28) 13 rfl rfl rfl f_Co_18_3 (by first | assumption | exact zu_s | (rw [zu_n (by omega)]; first | assumption | exact zu_s | (rw [zu_n (by omega)]; first | assumption | exact zu_s))) rfl rfl (by rfl) (by rfl) ?_
  dsimp only [List.set]
  refine z_al0 (pc' := 29) 14 rfl rfl ?_
  refine z_bipush (v := nI 6) (by decide) (pc' := 31) 15 rfl rfl ?_
  refine z_newa (pc' := 33) (ty := .int) (kd := 0) (a0 := (_, .inl (fun _ => 0))) 16 rfl rfl rfl (by intro _ h; cases h) rfl ka_int (fun _ => by rfl) rfl (by decide) (by omega) (by omega) ?_
  refine z_putF (pc' := 36) 17 rfl rfl rfl f_Co_21_3 (by first | assumption | exact zu_s | (rw [zu_n (by omega)]; first | assumption | exact zu_s | (rw [zu_n (by omega)]; first | assumption | exact zu_s))) rfl rfl (by rfl) (by rfl) ?_
  dsimp only [List.set]
  refine z_al0 (pc' := 37) 18 rfl rfl ?_
  refine z_bipush (v := nI 6) (by decide) (pc' := 39) 19 rfl rfl ?_
  refine z_newa (pc' := 41) (ty := .int) (kd := 0) (a0 := (_, .inl (fun _ => 0))) 20 rfl rfl rfl (by intro _ h; cases h) rfl ka_int (fun _ => by rfl) rfl (by decide) (by omega) (by omega) ?_
  refine z_putF (pc' := 44) 21 rfl rfl rfl f_Co_24_3 (by first | assumption | exact zu_s | (rw [zu_n (by omega)]; first | assumption | exact zu_s | (rw [zu_n (by omega)]; first | assumption | exact zu_s))) rfl rfl (by rfl) (by rfl) ?_
  dsimp only [List.set]
  refine z_al0 (pc' := 45) 22 rfl rfl ?_
  refine z_bipush (v := nI 6) (by decide) (pc' := 47) 23 rfl rfl ?_
  refine z_newa (pc' := 49) (ty := .int) (kd := 0) (a0 := (_, .inl (fun _ => 0))) 24 rfl rfl rfl (by intro _ h; cases h) rfl ka_int (fun _ => by rfl) rfl (by decide) (by omega) (by omega) ?_
  refine z_putF (pc' := 52) 25 rfl rfl rfl f_Co_27_3 (by first | assumption | exact zu_s | (rw [zu_n (by omega)]; first | assumption | exact zu_s | (rw [zu_n (by omega)]; first | assumption | exact zu_s))) rfl rfl (by rfl) (by rfl) ?_
  dsimp only [List.set]
  refine z_al0 (pc' := 53) 26 rfl rfl ?_
  refine z_bipush (v := nI 6) (by decide) (pc' := 55) 27 rfl rfl ?_
  refine z_newa (pc' := 57) (ty := .int) (kd := 0) (a0 := (_, .inl (fun _ => 0))) 28 rfl rfl rfl (by intro _ h; cases h) rfl ka_int (fun _ => by rfl) rfl (by decide) (by omega) (by omega) ?_
  refine z_putF (pc' := 60) 29 rfl rfl rfl f_Co_30_3 (by first | assumption | exact zu_s | (rw [zu_n (by omega)]; first | assumption | exact zu_s | (rw [zu_n (by omega)]; first | assumption | exact zu_s))) rfl rfl (by rfl) (by rfl) ?_
  dsimp only [List.set]
  refine z_al0 (pc' := 61) 30 rfl rfl ?_
  refine z_bipush (v := nI 12) (by decide) (pc' := 63) 31 rfl rfl ?_
  refine z_putf (pc' := 66) 32 rfl rfl f_Co_33_3 (by first | assumption | exact zu_s | (rw [zu_n (by omega)]; first | assumption | exact zu_s | (rw [zu_n (by omega)]; first | assumption | exact zu_s))) rfl rfl (by rfl) (by rfl) ?_
  dsimp only [List.set]
  refine z_al0 (pc' := 67) 33 rfl rfl ?_
  refine z_iconst (v := nI 1) (by decide) (pc' := 68) 34 rfl rfl ?_
  refine z_putf (pc' := 71) 35 rfl rfl f_Co_37_3 (by first | assumption | exact zu_s | (rw [zu_n (by omega)]; first | assumption | exact zu_s | (rw [zu_n (by omega)]; first | assumption | exact zu_s))) rfl rfl (by rfl) (by rfl) ?_
  dsimp only [List.set]
  refine z_al0 (pc' := 72) 36 rfl rfl ?_
  refine z_new (pc' := 75) 37 rfl rfl w_Co_40 (by omega) (by omega) ?_
  refine z_dup rfl (pc' := 76) 38 rfl rfl ?_
  refine z_callI (pc' := 79) 39 rfl rfl k_Co_42 (c_Cr_init (by omega) (by first | assumption | exact zu_s | (rw [zu_n (by omega)]; first | assumption | exact zu_s | (rw [zu_n (by omega)]; first | assumption | exact zu_s)))) (by decide) (by omega) (by omega) rfl rfl (Nat.le_of_ble_eq_true rfl) (fun r76 μ76 h76 => ?_)
  obtain ⟨y0, y1, y2, y3⟩ := h76
  subst y0
  dsimp only [Option.toList_none, List.nil_append]
  have ma : μ76 a = .inr (3, [.int 0, .ref n, .ref (n + 1), .ref (n + 2), .int 0, .ref (n + 3), .ref (n + 4), .ref (n + 5), .ref (n + 6), .int (nI 12), .int 0, .int (nI 1), .null, .null, .int 0, .null, .null]) := by rw [y3 a (by omega) (by omega), zu_n (by omega)]; exact zu_s
  refine z_putF (pc' := 82) 40 rfl rfl rfl f_Co_43_3 (by first | assumption | exact zu_s | (rw [zu_n (by omega)]; first | assumption | exact zu_s | (rw [zu_n (by omega)]; first | assumption | exact zu_s))) rfl rfl (by rfl) (by rfl) ?_
  dsimp only [List.set]
  refine z_al0 (pc' := 83) 41 rfl rfl ?_
  refine z_new (pc' := 86) 42 rfl rfl w_Co_47 (by omega) (by omega) ?_
  refine z_dup rfl (pc' := 87) 43 rfl rfl ?_
  refine z_callI (pc' := 90) 44 rfl rfl k_Co_49 (c_Bk_init (by omega) (by first | assumption | exact zu_s | (rw [zu_n (by omega)]; first | assumption | exact zu_s | (rw [zu_n (by omega)]; first | assumption | exact zu_s)))) (by decide) (by omega) (by omega) rfl rfl (Nat.le_of_ble_eq_true rfl) (fun r87 μ87 h87 => ?_)
  obtain ⟨z0, z1, z2, z3⟩ := h87
  subst z0
  dsimp only [Option.toList_none, List.nil_append]
  have mb : μ87 a = .inr (3, [.int 0, .ref n, .ref (n + 1), .ref (n + 2), .int 0, .ref (n + 3), .ref (n + 4), .ref (n + 5), .ref (n + 6), .int (nI 12), .int 0, .int (nI 1), .ref (n + 7), .null, .int 0, .null, .null]) := by rw [z3 a (by omega) (by omega), zu_n (by omega)]; exact zu_s
  refine z_putF (pc' := 93) 45 rfl rfl rfl f_Co_50_3 (by first | assumption | exact zu_s | (rw [zu_n (by omega)]; first | assumption | exact zu_s | (rw [zu_n (by omega)]; first | assumption | exact zu_s))) rfl rfl (by rfl) (by rfl) ?_
  dsimp only [List.set]
  refine z_al0 (pc' := 94) 46 rfl rfl ?_
  refine z_bipush (v := nI 24) (by decide) (pc' := 96) 47 rfl rfl ?_
  refine z_newa (pc' := 98) (ty := .int) (kd := 0) (a0 := (_, .inl (fun _ => 0))) 48 rfl rfl rfl (by intro _ h; cases h) rfl ka_int (fun _ => by rfl) rfl (by decide) (by omega) (by omega) ?_
  refine z_putF (pc' := 101) 49 rfl rfl rfl f_Co_54_3 (by first | assumption | exact zu_s | (rw [zu_n (by omega)]; first | assumption | exact zu_s | (rw [zu_n (by omega)]; first | assumption | exact zu_s))) rfl rfl (by rfl) (by rfl) ?_
  dsimp only [List.set]
  refine z_al0 (pc' := 102) 50 rfl rfl ?_
  refine z_bipush (v := nI 6) (by decide) (pc' := 104) 51 rfl rfl ?_
  refine z_newa (pc' := 106) (ty := .int) (kd := 0) (a0 := (_, .inl (fun _ => 0))) 52 rfl rfl rfl (by intro _ h; cases h) rfl ka_int (fun _ => by rfl) rfl (by decide) (by omega) (by omega) ?_
  refine z_putF (pc' := 109) 53 rfl rfl rfl f_Co_57_3 (by first | assumption | exact zu_s | (rw [zu_n (by omega)]; first | assumption | exact zu_s | (rw [zu_n (by omega)]; first | assumption | exact zu_s))) rfl rfl (by rfl) (by rfl) ?_
  dsimp only [List.set]
  refine z_return 54 rfl rfl rfl rfl ?_
  refine ⟨rfl, zu_s, fun j hj => ?_, fun i h1 h2 => ?_⟩
  · rcases (show j = 0 ∨ j = 1 ∨ j = 2 ∨ j = 3 ∨ j = 4 ∨ j = 5 ∨ j = 6 ∨ j = 7 ∨ j = 8 ∨ j = 9 ∨ j = 10 ∨ j = 11 ∨ j = 12 ∨ j = 13 ∨ j = 14 ∨ j = 15 ∨ j = 16 ∨ j = 17 by omega) with e | e | e | e | e | e | e | e | e | e | e | e | e | e | e | e | e | e
    · subst e; rw [zu_n (by omega), zu_n (by omega), zu_n (by omega), zu_n (by omega), zu_n (by omega), z3 _ (by omega) (by omega), zu_n (by omega), zu_n (by omega)]; rw [y3 _ (by omega) (by omega)]; repeat (first | exact zu_s | rw [zu_n (by omega)])
    · subst e; rw [zu_n (by omega), zu_n (by omega), zu_n (by omega), zu_n (by omega), zu_n (by omega), z3 _ (by omega) (by omega), zu_n (by omega), zu_n (by omega)]; rw [y3 _ (by omega) (by omega)]; repeat (first | exact zu_s | rw [zu_n (by omega)])
    · subst e; rw [zu_n (by omega), zu_n (by omega), zu_n (by omega), zu_n (by omega), zu_n (by omega), z3 _ (by omega) (by omega), zu_n (by omega), zu_n (by omega)]; rw [y3 _ (by omega) (by omega)]; repeat (first | exact zu_s | rw [zu_n (by omega)])
    · subst e; rw [zu_n (by omega), zu_n (by omega), zu_n (by omega), zu_n (by omega), zu_n (by omega), z3 _ (by omega) (by omega), zu_n (by omega), zu_n (by omega)]; rw [y3 _ (by omega) (by omega)]; repeat (first | exact zu_s | rw [zu_n (by omega)])
    · subst e; rw [zu_n (by omega), zu_n (by omega), zu_n (by omega), zu_n (by omega), zu_n (by omega), z3 _ (by omega) (by omega), zu_n (by omega), zu_n (by omega)]; rw [y3 _ (by omega) (by omega)]; repeat (first | exact zu_s | rw [zu_n (by omega)])
    · subst e; rw [zu_n (by omega), zu_n (by omega), zu_n (by omega), zu_n (by omega), zu_n (by omega), z3 _ (by omega) (by omega), zu_n (by omega), zu_n (by omega)]; rw [y3 _ (by omega) (by omega)]; repeat (first | exact zu_s | rw [zu_n (by omega)])
    · subst e; rw [zu_n (by omega), zu_n (by omega), zu_n (by omega), zu_n (by omega), zu_n (by omega), z3 _ (by omega) (by omega), zu_n (by omega), zu_n (by omega)]; rw [y3 _ (by omega) (by omega)]; repeat (first | exact zu_s | rw [zu_n (by omega)])
    · subst e; rw [zu_n (by omega), zu_n (by omega), zu_n (by omega), zu_n (by omega), zu_n (by omega), z3 _ (by omega) (by omega), zu_n (by omega), zu_n (by omega)]; exact y1
    · subst e; rw [zu_n (by omega), zu_n (by omega), zu_n (by omega), zu_n (by omega), zu_n (by omega), z3 _ (by omega) (by omega), zu_n (by omega), zu_n (by omega)]; exact y2 0 (by omega)
    · subst e; rw [zu_n (by omega), zu_n (by omega), zu_n (by omega), zu_n (by omega), zu_n (by omega), z3 _ (by omega) (by omega), zu_n (by omega), zu_n (by omega)]; exact y2 1 (by omega)
    · subst e; rw [zu_n (by omega), zu_n (by omega), zu_n (by omega), zu_n (by omega), zu_n (by omega), z3 _ (by omega) (by omega), zu_n (by omega), zu_n (by omega)]; exact y2 2 (by omega)
    · subst e; rw [zu_n (by omega), zu_n (by omega), zu_n (by omega), zu_n (by omega), zu_n (by omega)]; exact z1
    · subst e; rw [zu_n (by omega), zu_n (by omega), zu_n (by omega), zu_n (by omega), zu_n (by omega)]; exact z2 0 (by omega)
    · subst e; rw [zu_n (by omega), zu_n (by omega), zu_n (by omega), zu_n (by omega), zu_n (by omega)]; exact z2 1 (by omega)
    · subst e; rw [zu_n (by omega), zu_n (by omega), zu_n (by omega), zu_n (by omega), zu_n (by omega)]; exact z2 2 (by omega)
    · subst e; rw [zu_n (by omega), zu_n (by omega), zu_n (by omega), zu_n (by omega), zu_n (by omega)]; exact z2 3 (by omega)
    · subst e; repeat (first | exact zu_s | rw [zu_n (by omega)])
    · subst e; repeat (first | exact zu_s | rw [zu_n (by omega)])
  · rw [zu_n (by omega), zu_n (by omega), zu_n (by omega), zu_n (by omega), zu_n (by omega), z3 _ (by omega) (by omega), zu_n (by omega), zu_n (by omega), y3 _ (by omega) (by omega)]
    repeat (rw [zu_n (by omega)])
