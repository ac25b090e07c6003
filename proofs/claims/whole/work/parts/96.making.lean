/-! ===== making ===== -/
def mkd (μ : Nat → va_E) (a n k : Nat) (o : va_E) (f : Nat → va_E) : zP := fun r μ' => r = none ∧ μ' a = o ∧ (∀ j, j < k → μ' (n + j) = f j) ∧ ∀ i, i ≠ a → (i < n ∨ n + k ≤ i) → μ' i = μ i
set_option maxHeartbeats 4000000 in
set_option maxRecDepth 100000 in
theorem c_Cr_init {G : zG} {n u a : Nat} {μ : Nat → va_E} (ha : a < n) (hm : μ a = .inr (4, [.int 0, .null, .null, .int 0, .null])) : zMet G 1 M_Cr_init [.ref a] n u μ (n + 3) (u + 17) (mkd μ a n 3 (.inr (4, [.int 0, .ref n, .ref (n + 1), .int 0, .ref (n + 2)])) (fun j => if j = 2 then .inl (0, 5, .inl (fun _ => 0)) else .inl (0, 6, .inl (fun _ => 0)))) := by
  refine z_start (lv := [.ref a]) K_Cr_init rfl rfl (by omega) (by omega) (Nat.le_of_ble_eq_true rfl) rfl ?_
  refine z_al0 (pc' := 1) 0 rfl rfl ?_
  refine z_objInit (pc' := 4) 1 rfl rfl (by decide) ko_Cr_3 ko_ins ko_cod (Nat.le_of_ble_eq_true rfl) ?_
  refine z_al0 (pc' := 5) 2 rfl rfl ?_
  refine z_bipush (v := nI 6) (by decide) (pc' := 7) 3 rfl rfl ?_
  refine z_newa (pc' := 9) (ty := .int) (kd := 0) (a0 := (_, .inl (fun _ => 0))) 4 rfl rfl rfl (by intro _ h; cases h) rfl ka_int (fun _ => by rfl) rfl (by decide) (by omega) (by omega) ?_
  refine z_putF (pc' := 12) 5 rfl rfl rfl f_Cr_9_4 (by first | assumption | exact zu_s | (rw [zu_n (by omega)]; first | assumption | exact zu_s | (rw [zu_n (by omega)]; exact zu_s))) rfl rfl (by rfl) (by rfl) ?_
  dsimp only [List.set]
  refine z_al0 (pc' := 13) 6 rfl rfl ?_
  refine z_bipush (v := nI 6) (by decide) (pc' := 15) 7 rfl rfl ?_
  refine z_newa (pc' := 17) (ty := .int) (kd := 0) (a0 := (_, .inl (fun _ => 0))) 8 rfl rfl rfl (by intro _ h; cases h) rfl ka_int (fun _ => by rfl) rfl (by decide) (by omega) (by omega) ?_
  refine z_putF (pc' := 20) 9 rfl rfl rfl f_Cr_15_4 (by first | assumption | exact zu_s | (rw [zu_n (by omega)]; first | assumption | exact zu_s | (rw [zu_n (by omega)]; exact zu_s))) rfl rfl (by rfl) (by rfl) ?_
  dsimp only [List.set]
  refine z_al0 (pc' := 21) 10 rfl rfl ?_
  refine z_iconst (v := nI 5) (by decide) (pc' := 22) 11 rfl rfl ?_
  refine z_newa (pc' := 24) (ty := .int) (kd := 0) (a0 := (_, .inl (fun _ => 0))) 12 rfl rfl rfl (by intro _ h; cases h) rfl ka_int (fun _ => by rfl) rfl (by decide) (by omega) (by omega) ?_
  refine z_putF (pc' := 27) 13 rfl rfl rfl f_Cr_20_4 (by first | assumption | exact zu_s | (rw [zu_n (by omega)]; first | assumption | exact zu_s | (rw [zu_n (by omega)]; exact zu_s))) rfl rfl (by rfl) (by rfl) ?_
  dsimp only [List.set]
  exact z_return 14 rfl rfl rfl rfl (by refine ⟨rfl, zu_s, fun j hj => ?_, fun i h1 h2 => ?_⟩; (rcases (show j = 0 ∨ j = 1 ∨ j = 2 by omega) with e | e | e <;> subst e <;> (repeat (first | exact zu_s | rw [zu_n (by omega)]))); (repeat (rw [zu_n (by omega)])))
set_option maxHeartbeats 4000000 in
set_option maxRecDepth 100000 in
theorem c_Bk_init {G : zG} {n u a : Nat} {μ : Nat → va_E} (ha : a < n) (hm : μ a = .inr (0, [.int 0, .null, .null, .null, .null, .int 0])) : zMet G 1 M_Bk_init [.ref a] n u μ (n + 4) (u + 225) (mkd μ a n 4 (.inr (0, [.int 0, .ref n, .ref (n + 1), .ref (n + 2), .ref (n + 3), .int 0])) (fun j => if j = 3 then .inl (0, 200, .inl (fun _ => 0)) else if j = 2 then .inl (0, 9, .inl (fun _ => 0)) else .inl (0, 8, .inl (fun _ => 0)))) := by
  refine z_start (lv := [.ref a]) K_Bk_init rfl rfl (by omega) (by omega) (Nat.le_of_ble_eq_true rfl) rfl ?_
  refine z_al0 (pc' := 1) 0 rfl rfl ?_
  refine z_objInit (pc' := 4) 1 rfl rfl (by decide) ko_Bk_3 ko_ins ko_cod (Nat.le_of_ble_eq_true rfl) ?_
  refine z_al0 (pc' := 5) 2 rfl rfl ?_
  refine z_bipush (v := nI 8) (by decide) (pc' := 7) 3 rfl rfl ?_
  refine z_newa (pc' := 9) (ty := .int) (kd := 0) (a0 := (_, .inl (fun _ => 0))) 4 rfl rfl rfl (by intro _ h; cases h) rfl ka_int (fun _ => by rfl) rfl (by decide) (by omega) (by omega) ?_
  refine z_putF (pc' := 12) 5 rfl rfl rfl f_Bk_11_0 (by first | assumption | exact zu_s | (rw [zu_n (by omega)]; first | assumption | exact zu_s | (rw [zu_n (by omega)]; exact zu_s))) rfl rfl (by rfl) (by rfl) ?_
  dsimp only [List.set]
  refine z_al0 (pc' := 13) 6 rfl rfl ?_
  refine z_bipush (v := nI 8) (by decide) (pc' := 15) 7 rfl rfl ?_
  refine z_newa (pc' := 17) (ty := .int) (kd := 0) (a0 := (_, .inl (fun _ => 0))) 8 rfl rfl rfl (by intro _ h; cases h) rfl ka_int (fun _ => by rfl) rfl (by decide) (by omega) (by omega) ?_
  refine z_putF (pc' := 20) 9 rfl rfl rfl f_Bk_15_0 (by first | assumption | exact zu_s | (rw [zu_n (by omega)]; first | assumption | exact zu_s | (rw [zu_n (by omega)]; exact zu_s))) rfl rfl (by rfl) (by rfl) ?_
  dsimp only [List.set]
  refine z_al0 (pc' := 21) 10 rfl rfl ?_
  refine z_bipush (v := nI 9) (by decide) (pc' := 23) 11 rfl rfl ?_
  refine z_newa (pc' := 25) (ty := .int) (kd := 0) (a0 := (_, .inl (fun _ => 0))) 12 rfl rfl rfl (by intro _ h; cases h) rfl ka_int (fun _ => by rfl) rfl (by decide) (by omega) (by omega) ?_
  refine z_putF (pc' := 28) 13 rfl rfl rfl f_Bk_18_0 (by first | assumption | exact zu_s | (rw [zu_n (by omega)]; first | assumption | exact zu_s | (rw [zu_n (by omega)]; exact zu_s))) rfl rfl (by rfl) (by rfl) ?_
  dsimp only [List.set]
  refine z_al0 (pc' := 29) 14 rfl rfl ?_
  refine z_sipush (v := nI 200) (by decide) (pc' := 32) 15 rfl rfl ?_
  refine z_newa (pc' := 34) (ty := .int) (kd := 0) (a0 := (_, .inl (fun _ => 0))) 16 rfl rfl rfl (by intro _ h; cases h) rfl ka_int (fun _ => by rfl) rfl (by decide) (by omega) (by omega) ?_
  refine z_putF (pc' := 37) 17 rfl rfl rfl f_Bk_23_0 (by first | assumption | exact zu_s | (rw [zu_n (by omega)]; first | assumption | exact zu_s | (rw [zu_n (by omega)]; exact zu_s))) rfl rfl (by rfl) (by rfl) ?_
  dsimp only [List.set]
  exact z_return 18 rfl rfl rfl rfl (by refine ⟨rfl, zu_s, fun j hj => ?_, fun i h1 h2 => ?_⟩; (rcases (show j = 0 ∨ j = 1 ∨ j = 2 ∨ j = 3 by omega) with e | e | e | e <;> subst e <;> (repeat (first | exact zu_s | rw [zu_n (by omega)]))); (repeat (rw [zu_n (by omega)])))
set_option maxHeartbeats 4000000 in
set_option maxRecDepth 100000 in
theorem c_Ta_init {G : zG} {n u a : Nat} {μ : Nat → va_E} (ha : a < n) (hm : μ a = .inr (9, [.int 0, .null, .null, .null, .int 0])) : zMet G 1 M_Ta_init [.ref a] n u μ (n + 3) (u + 602) (mkd μ a n 3 (.inr (9, [.int 0, .ref n, .ref (n + 1), .ref (n + 2), .int 0])) (fun j => if j = 0 then .inl (0, 200, .inl (fun _ => 0)) else .inl (0, 201, .inl (fun _ => 0)))) := by
  refine z_start (lv := [.ref a]) K_Ta_init rfl rfl (by omega) (by omega) (Nat.le_of_ble_eq_true rfl) rfl ?_
  refine z_al0 (pc' := 1) 0 rfl rfl ?_
  refine z_objInit (pc' := 4) 1 rfl rfl (by decide) ko_Ta_3 ko_ins ko_cod (Nat.le_of_ble_eq_true rfl) ?_
  refine z_al0 (pc' := 5) 2 rfl rfl ?_
  refine z_sipush (v := nI 200) (by decide) (pc' := 8) 3 rfl rfl ?_
  refine z_newa (pc' := 10) (ty := .int) (kd := 0) (a0 := (_, .inl (fun _ => 0))) 4 rfl rfl rfl (by intro _ h; cases h) rfl ka_int (fun _ => by rfl) rfl (by decide) (by omega) (by omega) ?_
  refine z_putF (pc' := 13) 5 rfl rfl rfl f_Ta_11_9 (by first | assumption | exact zu_s | (rw [zu_n (by omega)]; first | assumption | exact zu_s | (rw [zu_n (by omega)]; exact zu_s))) rfl rfl (by rfl) (by rfl) ?_
  dsimp only [List.set]
  refine z_al0 (pc' := 14) 6 rfl rfl ?_
  refine z_sipush (v := nI 201) (by decide) (pc' := 17) 7 rfl rfl ?_
  refine z_newa (pc' := 19) (ty := .int) (kd := 0) (a0 := (_, .inl (fun _ => 0))) 8 rfl rfl rfl (by intro _ h; cases h) rfl ka_int (fun _ => by rfl) rfl (by decide) (by omega) (by omega) ?_
  refine z_putF (pc' := 22) 9 rfl rfl rfl f_Ta_15_9 (by first | assumption | exact zu_s | (rw [zu_n (by omega)]; first | assumption | exact zu_s | (rw [zu_n (by omega)]; exact zu_s))) rfl rfl (by rfl) (by rfl) ?_
  dsimp only [List.set]
  refine z_al0 (pc' := 23) 10 rfl rfl ?_
  refine z_sipush (v := nI 201) (by decide) (pc' := 26) 11 rfl rfl ?_
  refine z_newa (pc' := 28) (ty := .int) (kd := 0) (a0 := (_, .inl (fun _ => 0))) 12 rfl rfl rfl (by intro _ h; cases h) rfl ka_int (fun _ => by rfl) rfl (by decide) (by omega) (by omega) ?_
  refine z_putF (pc' := 31) 13 rfl rfl rfl f_Ta_18_9 (by first | assumption | exact zu_s | (rw [zu_n (by omega)]; first | assumption | exact zu_s | (rw [zu_n (by omega)]; exact zu_s))) rfl rfl (by rfl) (by rfl) ?_
  dsimp only [List.set]
  exact z_return 14 rfl rfl rfl rfl (by refine ⟨rfl, zu_s, fun j hj => ?_, fun i h1 h2 => ?_⟩; (rcases (show j = 0 ∨ j = 1 ∨ j = 2 by omega) with e | e | e <;> subst e <;> (repeat (first | exact zu_s | rw [zu_n (by omega)]))); (repeat (rw [zu_n (by omega)])))
