/-! ===== making plans: the object a, four rows from n on, then five courses of four cells each ===== -/
theorem w_Pl_21n : zN "WindBrides$Plans" 21 4 5 [.int 0, .null, .null, .int 0, .null] := ⟨R_Cr, F_Cr, t_Cr, rfl, i_Cr, t_Cr_ok, z_mem 300 (by decide +kernel) rfl, z_mem 135 (by decide +kernel) rfl, z_mem 103 (by decide +kernel) rfl, by decide +kernel, by decide⟩
def z9 : Nat → Nat := fun _ => 0
def mkP (μ0 μ : Nat → va_E) (a n i : Nat) : Prop := μ a = .inr (7, [.int 0, .int 0, .int 0, .ref n, .int 0, .int 0, .int 0, .int 0, .ref (n + 1), .null, .int 0, .ref (n + 2), .ref (n + 3)]) ∧ μ n = .inl (0, 4, .inl (fun _ => 0)) ∧ μ (n + 1) = .inl (0, 12, .inl (fun _ => 0)) ∧ μ (n + 2) = .inl (0, 4, .inl (fun _ => 0)) ∧ (∃ bh : Nat → Option Nat, μ (n + 3) = .inl (3, 5, .inr (.inr (.inr (.inr bh)))) ∧ ∀ j, j < i → bh j = some (n + 4 + 4 * j)) ∧ (∀ j, j < i → isCr μ (n + 4 + 4 * j) 0 0 z9 z9 z9) ∧ ∀ k, k ≠ a → (k < n ∨ n + 4 + 4 * i ≤ k) → μ k = μ0 k
set_option maxHeartbeats 4000000 in
set_option maxRecDepth 100000 in
theorem l_Pl_init {G : zG} {n u a : Nat} {μ0 : Nat → va_E} (ha : a < n) : ∀ k i μ, i + k = 5 → mkP μ0 μ a n i → zW G 2 M_Pl_init 36 [.ref a, .int (nI i)] [] (n + 4 + 4 * i) (u + 25 + 22 * i) μ (n + 24) (u + 135) (fun r μ' => r = none ∧ mkP μ0 μ' a n 5)
  | 0, i, μ, hi, h => by
    obtain rfl : i = 5 := by omega
    obtain ⟨h0, h1, h2, h2a, ⟨bh, h3, hb⟩, h4, h5⟩ := h
    refine z_il1 (pc' := 37) 20 rfl rfl ?_
    refine z_iconst (v := nI 4) (by decide) (pc' := 38) 21 rfl rfl ?_
    refine z_icmp_gt_t 22 rfl (tgt := 60) rfl (by decide) ?_
    refine z_return 32 rfl rfl (by omega) (by omega) ?_
    exact ⟨rfl, h0, h1, h2, h2a, ⟨bh, h3, hb⟩, h4, h5⟩
  | k + 1, i, μ, hi, h => by
    obtain ⟨h0, h1, h2, h2a, ⟨bh, h3, hb⟩, h4, h5⟩ := h
    refine z_il1 (pc' := 37) 20 rfl rfl ?_
    refine z_iconst (v := nI 4) (by decide) (pc' := 38) 21 rfl rfl ?_
    refine z_icmp_gt_f (pc' := 41) 22 rfl rfl (tgt := 60) rfl (by rcases (show i = 0 ∨ i = 1 ∨ i = 2 ∨ i = 3 ∨ i = 4 by omega) with e | e | e | e | e <;> subst e <;> decide) ?_
    refine z_al0 (pc' := 42) 23 rfl rfl ?_
    refine z_getf (pc' := 45) 24 rfl rfl f_Pl_23_7 (by repeat (first | assumption | exact zu_s | rw [zu_n (by omega)])) (by rfl) ?_
    refine z_il1 (pc' := 46) 25 rfl rfl ?_
    refine z_new (pc' := 49) 26 rfl rfl w_Pl_21n (by omega) (by omega) ?_
    refine z_dup rfl (pc' := 50) 27 rfl rfl ?_
    refine z_callI (pc' := 53) 28 rfl rfl k_Pl_27 (c_Cr_init (by omega) (by exact zu_s)) (by decide) (by omega) (by omega) rfl rfl (Nat.le_of_ble_eq_true rfl) (fun r50 μ50 h50 => ?_)
    obtain ⟨y0, y1, y2, y3⟩ := h50
    subst y0
    dsimp only [Option.toList_none, List.nil_append]
    have g3 : μ50 (n + 3) = .inl (3, 5, .inr (.inr (.inr (.inr bh)))) := by rw [y3 (n + 3) (by omega) (by omega), zu_n (by omega)]; exact h3
    have gf : ∀ k, k < n + 4 + 4 * i → μ50 k = μ k := fun k hk => by rw [y3 k (by omega) (by omega), zu_n (by omega)]
    refine z_aast (pc' := 54) 29 rfl rfl (by repeat (first | assumption | exact zu_s | rw [zu_n (by omega)])) (by repeat (first | assumption | exact zu_s | rw [zu_n (by omega)])) (by omega) (by decide) ?_
    first | refine z_inc1N rfl rfl (pc' := 57) 30 rfl rfl ?_ | refine z_inc1 rfl rfl rfl (pc' := 57) 30 rfl rfl ?_
    refine z_goto 31 rfl (tgt := 36) rfl ?_
    have e1 : n + 4 + 4 * i + 1 + 3 = n + 4 + 4 * (i + 1) := by omega
    have e2 : u + 25 + 22 * i + 5 + 17 = u + 25 + 22 * (i + 1) := by omega
    rw [e1, e2]
    refine l_Pl_init ha k (i + 1) _ (by omega) ⟨?_, ?_, ?_, ?_, ⟨_, zu_s, fun j hj => ?_⟩, fun j hj => ?_, fun k h6 h7 => ?_⟩
    · rw [zu_n (by omega), gf _ (by omega)]; exact h0
    · rw [zu_n (by omega), gf _ (by omega)]; exact h1
    · rw [zu_n (by omega), gf _ (by omega)]; exact h2
    · rw [zu_n (by omega), gf _ (by omega)]; exact h2a
    · unfold va_up
      by_cases e : j = i
      · subst e; simp
      · simp [e]; exact hb j (by omega)
    · by_cases e : j = i
      · subst e
        refine ⟨?_, ?_, ?_, ?_⟩
        · rw [zu_n (by omega)]; exact y1
        · rw [zu_n (by omega)]; exact y2 0 (by omega)
        · rw [zu_n (by omega)]; exact y2 1 (by omega)
        · rw [zu_n (by omega)]; exact y2 2 (by omega)
      · exact isCr_fr (h4 j (by omega)) (fun k a1 a2 => by rw [zu_n (by omega), gf _ (by omega)])
    · rw [zu_n (by omega), y3 k (by omega) (by omega), zu_n (by omega)]; exact h5 k h6 (by omega)
set_option maxHeartbeats 4000000 in
set_option maxRecDepth 100000 in
theorem c_Pl_init {G : zG} {n u a : Nat} {μ : Nat → va_E} (ha : a < n) (hm : μ a = .inr (7, [.int 0, .int 0, .int 0, .null, .int 0, .int 0, .int 0, .int 0, .null, .null, .int 0, .null, .null])) : zMet G 2 M_Pl_init [.ref a] n u μ (n + 24) (u + 135) (fun r μ' => r = none ∧ mkP μ μ' a n 5) := by
  refine z_start (lv := [.ref a, .retAddr 0]) K_Pl_init rfl rfl (by omega) (by omega) (Nat.le_of_ble_eq_true rfl) rfl ?_
  refine z_al0 (pc' := 1) 0 rfl rfl ?_
  refine z_objInit (pc' := 4) 1 rfl rfl (by decide) ko_Pl_3 ko_ins ko_cod (Nat.le_of_ble_eq_true rfl) ?_
  refine z_al0 (pc' := 5) 2 rfl rfl ?_
  refine z_iconst (v := nI 4) (by decide) (pc' := 6) 3 rfl rfl ?_
  refine z_newa (pc' := 8) (ty := .int) (kd := 0) (a0 := (_, .inl (fun _ => 0))) 4 rfl rfl rfl (by intro _ h; cases h) rfl ka_int (fun _ => by rfl) rfl (by decide) (by omega) (by omega) ?_
  refine z_putF (pc' := 11) 5 rfl rfl rfl f_Pl_9_7 (by repeat (first | assumption | exact zu_s | rw [zu_n (by omega)])) rfl rfl (by rfl) (by rfl) ?_
  dsimp only [List.set]
  refine z_al0 (pc' := 12) 6 rfl rfl ?_
  refine z_bipush (v := nI 12) (by decide) (pc' := 14) 7 rfl rfl ?_
  refine z_newa (pc' := 16) (ty := .int) (kd := 0) (a0 := (_, .inl (fun _ => 0))) 8 rfl rfl rfl (by intro _ h; cases h) rfl ka_int (fun _ => by rfl) rfl (by decide) (by omega) (by omega) ?_
  refine z_putF (pc' := 19) 9 rfl rfl rfl f_Pl_15_7 (by repeat (first | assumption | exact zu_s | rw [zu_n (by omega)])) rfl rfl (by rfl) (by rfl) ?_
  dsimp only [List.set]
  refine z_al0 (pc' := 20) 10 rfl rfl ?_
  refine z_iconst (v := nI 4) (by decide) (pc' := 21) 11 rfl rfl ?_
  refine z_newa (pc' := 23) (ty := .int) (kd := 0) (a0 := (_, .inl (fun _ => 0))) 12 rfl rfl rfl (by intro _ h; cases h) rfl ka_int (fun _ => by rfl) rfl (by decide) (by omega) (by omega) ?_
  refine z_putF (pc' := 26) 13 rfl rfl rfl f_Pl_18_7 (by repeat (first | assumption | exact zu_s | rw [zu_n (by omega)])) rfl rfl (by rfl) (by rfl) ?_
  dsimp only [List.set]
  refine z_al0 (pc' := 27) 14 rfl rfl ?_
  refine z_iconst (v := nI 5) (by decide) (pc' := 28) 15 rfl rfl ?_
  refine z_newq (pc' := 31) 16 rfl rfl w_Pl_21 (by decide) (by omega) (by omega) ?_
  refine z_putF (pc' := 34) 17 rfl rfl rfl f_Pl_23_7 (by repeat (first | assumption | exact zu_s | rw [zu_n (by omega)])) rfl rfl (by rfl) (by rfl) ?_
  dsimp only [List.set]
  refine z_iconst (v := nI 0) (by decide) (pc' := 35) 18 rfl rfl ?_
  refine z_is1 rfl rfl (pc' := 36) 19 rfl rfl ?_
  refine l_Pl_init ha 5 0 _ (by omega) ⟨zu_s, ?_, ?_, ?_, ⟨fun _ => none, ?_, fun j hj => absurd hj (by omega)⟩, fun j hj => absurd hj (by omega), fun k h6 h7 => ?_⟩
  · repeat (first | assumption | exact zu_s | rw [zu_n (by omega)])
  · repeat (first | assumption | exact zu_s | rw [zu_n (by omega)])
  · repeat (first | assumption | exact zu_s | rw [zu_n (by omega)])
  · rw [zu_n (by omega)]; exact zu_s
  · repeat (rw [zu_n (by omega)])
