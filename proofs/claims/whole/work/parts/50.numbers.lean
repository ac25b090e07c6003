/-! ===== bits of sets below 64 ===== -/
def ntz (a : Nat) : Nat := if a % 2 = 1 then 0 else if a / 2 % 2 = 1 then 1 else if a / 4 % 2 = 1 then 2 else if a / 8 % 2 = 1 then 3 else if a / 16 % 2 = 1 then 4 else 5
def pcn (a : Nat) : Nat := a % 2 + a / 2 % 2 + a / 4 % 2 + a / 8 % 2 + a / 16 % 2 + a / 32 % 2
theorem ntz_e : ∀ a, a < 64 → a ≠ 0 → (nI a ^^^ (-1)) &&& (nI a - nI 1) = nI (2 ^ ntz a - 1) := by decide +kernel
theorem ntz_le : ∀ a, a < 64 → ntz a < 6 := by decide +kernel
def bdf (j e : Nat) : Nat := j - (j &&& e)
theorem bdf_e : ∀ j, j < 64 → ∀ e, e < 64 → nI j &&& (nI e ^^^ (-1)) = nI (bdf j e) := by decide +kernel
theorem bdf_lt {j e n : Nat} (h : j < n) : bdf j e < n := by unfold bdf; omega
theorem ntz_f : ∀ b, b < 64 → ∀ g, g < 6 → b / 2 ^ g % 2 = 1 → (∀ i, i < g → b / 2 ^ i % 2 = 0) → ntz b = g := by decide +kernel
theorem ntz_0 : ∀ n, n < 7 → ∀ b, b < 2 ^ n → (∀ i, i < n → b / 2 ^ i % 2 = 0) → b = 0 := by decide +kernel
theorem pcn_s : ∀ a, a < 64 → a ≠ 0 → pcn (a &&& (a - 1)) + 1 = pcn a ∧ a &&& (a - 1) < 64 := by decide +kernel
theorem pcn_le : ∀ a, a < 64 → pcn a ≤ 6 := by decide +kernel
set_option maxHeartbeats 4000000 in
set_option maxRecDepth 100000 in
theorem c_Ji_numberOfTrailingZeros {G : zG} {n u : Nat} {μ : Nat → va_E} {a : Nat} (ha : a < 64) (h0 : a ≠ 0) : zMet G 0 M_Ji_numberOfTrailingZeros [.int (nI a)] n u μ n u (zE (some (.int (nI (ntz a)))) μ) := by
  have hl := ntz_le a ha
  have he := ntz_e a ha h0
  refine z_start (lv := [.int (nI a), .retAddr 0]) K_Ji_numberOfTrailingZeros rfl rfl (Nat.le_refl _) (Nat.le_refl _) (Nat.le_of_ble_eq_true rfl) rfl ?_
  refine z_il0 (pc' := 1) 0 rfl rfl ?_
  refine z_iconst (v := (-1)) (by decide) (pc' := 2) 1 rfl rfl ?_
  refine z_ixor (pc' := 3) 2 rfl rfl ?_
  refine z_il0 (pc' := 4) 3 rfl rfl ?_
  refine z_iconst (v := nI 1) (by decide) (pc' := 5) 4 rfl rfl ?_
  refine z_isub (pc' := 6) 5 rfl rfl ?_
  refine z_iand (pc' := 7) 6 rfl rfl ?_
  refine z_te he ?_
  refine z_is0 rfl (pc' := 8) 7 rfl rfl ?_
  generalize ntz a = k at hl ⊢
  rcases (show k = 0 ∨ k = 1 ∨ k = 2 ∨ k = 3 ∨ k = 4 ∨ k = 5 by omega) with e | e | e | e | e | e <;> subst e
  · refine z_il0 (pc' := 9) 8 rfl rfl ?_
    refine z_if_gt_f (pc' := 12) 9 rfl rfl (tgt := 17) rfl (by decide) ?_
    refine z_il0 (pc' := 13) 10 rfl rfl ?_
    refine z_bipush (v := nI 32) (by decide) (pc' := 15) 11 rfl rfl ?_
    refine z_iand (pc' := 16) 12 rfl rfl ?_
    exact z_ireturn 13 rfl rfl (by first | rfl | exact zbo_nar) rfl rfl (by exact ⟨rfl, rfl⟩)
  · refine z_il0 (pc' := 9) 8 rfl rfl ?_
    refine z_if_gt_t 9 rfl (tgt := 17) rfl (by decide) ?_
    refine z_iconst (v := nI 1) (by decide) (pc' := 18) 14 rfl rfl ?_
    refine z_is1 rfl rfl (pc' := 19) 15 rfl rfl ?_
    refine z_il0 (pc' := 20) 16 rfl rfl ?_
    refine z_ldcw l_Ji_264 (pc' := 23) 17 rfl rfl ?_
    refine z_icmp_le_t 18 rfl (tgt := 34) rfl (by decide) ?_
    refine z_il0 (pc' := 35) 24 rfl rfl ?_
    refine z_sipush (v := nI 256) (by decide) (pc' := 38) 25 rfl rfl ?_
    refine z_icmp_le_t 26 rfl (tgt := 49) rfl (by decide) ?_
    refine z_il0 (pc' := 50) 32 rfl rfl ?_
    refine z_bipush (v := nI 16) (by decide) (pc' := 52) 33 rfl rfl ?_
    refine z_icmp_le_t 34 rfl (tgt := 62) rfl (by decide) ?_
    refine z_il0 (pc' := 63) 40 rfl rfl ?_
    refine z_iconst (v := nI 4) (by decide) (pc' := 64) 41 rfl rfl ?_
    refine z_icmp_le_t 42 rfl (tgt := 74) rfl (by decide) ?_
    refine z_il1 (pc' := 75) 48 rfl rfl ?_
    refine z_il0 (pc' := 76) 49 rfl rfl ?_
    refine z_iconst (v := nI 1) (by decide) (pc' := 77) 50 rfl rfl ?_
    refine z_iushr (pc' := 78) 51 rfl rfl ?_
    refine z_te (show _ = nI 0 by decide) ?_
    first | refine z_iaddN (pc' := 79) 52 rfl rfl ?_ | refine z_iadd (pc' := 79) 52 rfl rfl ?_
    exact z_ireturn 53 rfl rfl (by first | rfl | exact zbo_nar) rfl rfl (by exact ⟨rfl, rfl⟩)
  · refine z_il0 (pc' := 9) 8 rfl rfl ?_
    refine z_if_gt_t 9 rfl (tgt := 17) rfl (by decide) ?_
    refine z_iconst (v := nI 1) (by decide) (pc' := 18) 14 rfl rfl ?_
    refine z_is1 rfl rfl (pc' := 19) 15 rfl rfl ?_
    refine z_il0 (pc' := 20) 16 rfl rfl ?_
    refine z_ldcw l_Ji_264 (pc' := 23) 17 rfl rfl ?_
    refine z_icmp_le_t 18 rfl (tgt := 34) rfl (by decide) ?_
    refine z_il0 (pc' := 35) 24 rfl rfl ?_
    refine z_sipush (v := nI 256) (by decide) (pc' := 38) 25 rfl rfl ?_
    refine z_icmp_le_t 26 rfl (tgt := 49) rfl (by decide) ?_
    refine z_il0 (pc' := 50) 32 rfl rfl ?_
    refine z_bipush (v := nI 16) (by decide) (pc' := 52) 33 rfl rfl ?_
    refine z_icmp_le_t 34 rfl (tgt := 62) rfl (by decide) ?_
    refine z_il0 (pc' := 63) 40 rfl rfl ?_
    refine z_iconst (v := nI 4) (by decide) (pc' := 64) 41 rfl rfl ?_
    refine z_icmp_le_t 42 rfl (tgt := 74) rfl (by decide) ?_
    refine z_il1 (pc' := 75) 48 rfl rfl ?_
    refine z_il0 (pc' := 76) 49 rfl rfl ?_
    refine z_iconst (v := nI 1) (by decide) (pc' := 77) 50 rfl rfl ?_
    refine z_iushr (pc' := 78) 51 rfl rfl ?_
    refine z_te (show _ = nI 1 by decide) ?_
    first | refine z_iaddN (pc' := 79) 52 rfl rfl ?_ | refine z_iadd (pc' := 79) 52 rfl rfl ?_
    exact z_ireturn 53 rfl rfl (by first | rfl | exact zbo_nar) rfl rfl (by exact ⟨rfl, rfl⟩)
  · refine z_il0 (pc' := 9) 8 rfl rfl ?_
    refine z_if_gt_t 9 rfl (tgt := 17) rfl (by decide) ?_
    refine z_iconst (v := nI 1) (by decide) (pc' := 18) 14 rfl rfl ?_
    refine z_is1 rfl rfl (pc' := 19) 15 rfl rfl ?_
    refine z_il0 (pc' := 20) 16 rfl rfl ?_
    refine z_ldcw l_Ji_264 (pc' := 23) 17 rfl rfl ?_
    refine z_icmp_le_t 18 rfl (tgt := 34) rfl (by decide) ?_
    refine z_il0 (pc' := 35) 24 rfl rfl ?_
    refine z_sipush (v := nI 256) (by decide) (pc' := 38) 25 rfl rfl ?_
    refine z_icmp_le_t 26 rfl (tgt := 49) rfl (by decide) ?_
    refine z_il0 (pc' := 50) 32 rfl rfl ?_
    refine z_bipush (v := nI 16) (by decide) (pc' := 52) 33 rfl rfl ?_
    refine z_icmp_le_t 34 rfl (tgt := 62) rfl (by decide) ?_
    refine z_il0 (pc' := 63) 40 rfl rfl ?_
    refine z_iconst (v := nI 4) (by decide) (pc' := 64) 41 rfl rfl ?_
    refine z_icmp_le_f (pc' := 67) 42 rfl rfl (tgt := 74) rfl (by decide) ?_
    refine z_inc1 rfl rfl (nI_inc _ 2) (pc' := 70) 43 rfl rfl ?_
    refine z_il0 (pc' := 71) 44 rfl rfl ?_
    refine z_iconst (v := nI 2) (by decide) (pc' := 72) 45 rfl rfl ?_
    refine z_iushr (pc' := 73) 46 rfl rfl ?_
    refine z_te (show _ = nI 1 by decide) ?_
    refine z_is0 rfl (pc' := 74) 47 rfl rfl ?_
    refine z_il1 (pc' := 75) 48 rfl rfl ?_
    refine z_il0 (pc' := 76) 49 rfl rfl ?_
    refine z_iconst (v := nI 1) (by decide) (pc' := 77) 50 rfl rfl ?_
    refine z_iushr (pc' := 78) 51 rfl rfl ?_
    refine z_te (show _ = nI 0 by decide) ?_
    first | refine z_iaddN (pc' := 79) 52 rfl rfl ?_ | refine z_iadd (pc' := 79) 52 rfl rfl ?_
    exact z_ireturn 53 rfl rfl (by first | rfl | exact zbo_nar) rfl rfl (by exact ⟨rfl, rfl⟩)
  · refine z_il0 (pc' := 9) 8 rfl rfl ?_
    refine z_if_gt_t 9 rfl (tgt := 17) rfl (by decide) ?_
    refine z_iconst (v := nI 1) (by decide) (pc' := 18) 14 rfl rfl ?_
    refine z_is1 rfl rfl (pc' := 19) 15 rfl rfl ?_
    refine z_il0 (pc' := 20) 16 rfl rfl ?_
    refine z_ldcw l_Ji_264 (pc' := 23) 17 rfl rfl ?_
    refine z_icmp_le_t 18 rfl (tgt := 34) rfl (by decide) ?_
    refine z_il0 (pc' := 35) 24 rfl rfl ?_
    refine z_sipush (v := nI 256) (by decide) (pc' := 38) 25 rfl rfl ?_
    refine z_icmp_le_t 26 rfl (tgt := 49) rfl (by decide) ?_
    refine z_il0 (pc' := 50) 32 rfl rfl ?_
    refine z_bipush (v := nI 16) (by decide) (pc' := 52) 33 rfl rfl ?_
    refine z_icmp_le_t 34 rfl (tgt := 62) rfl (by decide) ?_
    refine z_il0 (pc' := 63) 40 rfl rfl ?_
    refine z_iconst (v := nI 4) (by decide) (pc' := 64) 41 rfl rfl ?_
    refine z_icmp_le_f (pc' := 67) 42 rfl rfl (tgt := 74) rfl (by decide) ?_
    refine z_inc1 rfl rfl (nI_inc _ 2) (pc' := 70) 43 rfl rfl ?_
    refine z_il0 (pc' := 71) 44 rfl rfl ?_
    refine z_iconst (v := nI 2) (by decide) (pc' := 72) 45 rfl rfl ?_
    refine z_iushr (pc' := 73) 46 rfl rfl ?_
    refine z_te (show _ = nI 3 by decide) ?_
    refine z_is0 rfl (pc' := 74) 47 rfl rfl ?_
    refine z_il1 (pc' := 75) 48 rfl rfl ?_
    refine z_il0 (pc' := 76) 49 rfl rfl ?_
    refine z_iconst (v := nI 1) (by decide) (pc' := 77) 50 rfl rfl ?_
    refine z_iushr (pc' := 78) 51 rfl rfl ?_
    refine z_te (show _ = nI 1 by decide) ?_
    first | refine z_iaddN (pc' := 79) 52 rfl rfl ?_ | refine z_iadd (pc' := 79) 52 rfl rfl ?_
    exact z_ireturn 53 rfl rfl (by first | rfl | exact zbo_nar) rfl rfl (by exact ⟨rfl, rfl⟩)
  · refine z_il0 (pc' := 9) 8 rfl rfl ?_
    refine z_if_gt_t 9 rfl (tgt := 17) rfl (by decide) ?_
    refine z_iconst (v := nI 1) (by decide) (pc' := 18) 14 rfl rfl ?_
    refine z_is1 rfl rfl (pc' := 19) 15 rfl rfl ?_
    refine z_il0 (pc' := 20) 16 rfl rfl ?_
    refine z_ldcw l_Ji_264 (pc' := 23) 17 rfl rfl ?_
    refine z_icmp_le_t 18 rfl (tgt := 34) rfl (by decide) ?_
    refine z_il0 (pc' := 35) 24 rfl rfl ?_
    refine z_sipush (v := nI 256) (by decide) (pc' := 38) 25 rfl rfl ?_
    refine z_icmp_le_t 26 rfl (tgt := 49) rfl (by decide) ?_
    refine z_il0 (pc' := 50) 32 rfl rfl ?_
    refine z_bipush (v := nI 16) (by decide) (pc' := 52) 33 rfl rfl ?_
    refine z_icmp_le_f (pc' := 55) 34 rfl rfl (tgt := 62) rfl (by decide) ?_
    refine z_inc1 rfl rfl (nI_inc _ 4) (pc' := 58) 35 rfl rfl ?_
    refine z_il0 (pc' := 59) 36 rfl rfl ?_
    refine z_iconst (v := nI 4) (by decide) (pc' := 60) 37 rfl rfl ?_
    refine z_iushr (pc' := 61) 38 rfl rfl ?_
    refine z_te (show _ = nI 1 by decide) ?_
    refine z_is0 rfl (pc' := 62) 39 rfl rfl ?_
    refine z_il0 (pc' := 63) 40 rfl rfl ?_
    refine z_iconst (v := nI 4) (by decide) (pc' := 64) 41 rfl rfl ?_
    refine z_icmp_le_t 42 rfl (tgt := 74) rfl (by decide) ?_
    refine z_il1 (pc' := 75) 48 rfl rfl ?_
    refine z_il0 (pc' := 76) 49 rfl rfl ?_
    refine z_iconst (v := nI 1) (by decide) (pc' := 77) 50 rfl rfl ?_
    refine z_iushr (pc' := 78) 51 rfl rfl ?_
    refine z_te (show _ = nI 0 by decide) ?_
    first | refine z_iaddN (pc' := 79) 52 rfl rfl ?_ | refine z_iadd (pc' := 79) 52 rfl rfl ?_
    exact z_ireturn 53 rfl rfl (by first | rfl | exact zbo_nar) rfl rfl (by exact ⟨rfl, rfl⟩)
set_option maxHeartbeats 4000000 in
set_option maxRecDepth 100000 in
theorem c_Ji_bitCount {G : zG} {n u : Nat} {μ : Nat → va_E} {a : Nat} (ha : a < 64) : zMet G 0 M_Ji_bitCount [.int (nI a)] n u μ n u (zE (some (.int (nI (pcn a)))) μ) := by
  refine z_start (lv := [.int (nI a)]) K_Ji_bitCount rfl rfl (Nat.le_refl _) (Nat.le_refl _) (Nat.le_of_ble_eq_true rfl) rfl ?_
  refine z_il0 (pc' := 1) 0 rfl rfl ?_
  refine z_il0 (pc' := 2) 1 rfl rfl ?_
  refine z_iconst (v := nI 1) (by decide) (pc' := 3) 2 rfl rfl ?_
  refine z_iushr (pc' := 4) 3 rfl rfl ?_
  refine z_ldcw l_Ji_265 (pc' := 7) 4 rfl rfl ?_
  refine z_iand (pc' := 8) 5 rfl rfl ?_
  refine z_isub (pc' := 9) 6 rfl rfl ?_
  refine z_is0 rfl (pc' := 10) 7 rfl rfl ?_
  refine z_il0 (pc' := 11) 8 rfl rfl ?_
  refine z_ldcw l_Ji_266 (pc' := 14) 9 rfl rfl ?_
  refine z_iand (pc' := 15) 10 rfl rfl ?_
  refine z_il0 (pc' := 16) 11 rfl rfl ?_
  refine z_iconst (v := nI 2) (by decide) (pc' := 17) 12 rfl rfl ?_
  refine z_iushr (pc' := 18) 13 rfl rfl ?_
  refine z_ldcw l_Ji_266 (pc' := 21) 14 rfl rfl ?_
  refine z_iand (pc' := 22) 15 rfl rfl ?_
  refine z_iadd (pc' := 23) 16 rfl rfl ?_
  refine z_is0 rfl (pc' := 24) 17 rfl rfl ?_
  refine z_il0 (pc' := 25) 18 rfl rfl ?_
  refine z_il0 (pc' := 26) 19 rfl rfl ?_
  refine z_iconst (v := nI 4) (by decide) (pc' := 27) 20 rfl rfl ?_
  refine z_iushr (pc' := 28) 21 rfl rfl ?_
  refine z_iadd (pc' := 29) 22 rfl rfl ?_
  refine z_ldcw l_Ji_267 (pc' := 32) 23 rfl rfl ?_
  refine z_iand (pc' := 33) 24 rfl rfl ?_
  refine z_is0 rfl (pc' := 34) 25 rfl rfl ?_
  refine z_il0 (pc' := 35) 26 rfl rfl ?_
  refine z_il0 (pc' := 36) 27 rfl rfl ?_
  refine z_bipush (v := nI 8) (by decide) (pc' := 38) 28 rfl rfl ?_
  refine z_iushr (pc' := 39) 29 rfl rfl ?_
  refine z_iadd (pc' := 40) 30 rfl rfl ?_
  refine z_is0 rfl (pc' := 41) 31 rfl rfl ?_
  refine z_il0 (pc' := 42) 32 rfl rfl ?_
  refine z_il0 (pc' := 43) 33 rfl rfl ?_
  refine z_bipush (v := nI 16) (by decide) (pc' := 45) 34 rfl rfl ?_
  refine z_iushr (pc' := 46) 35 rfl rfl ?_
  refine z_iadd (pc' := 47) 36 rfl rfl ?_
  refine z_is0 rfl (pc' := 48) 37 rfl rfl ?_
  refine z_il0 (pc' := 49) 38 rfl rfl ?_
  refine z_bipush (v := nI 63) (by decide) (pc' := 51) 39 rfl rfl ?_
  refine z_iand (pc' := 52) 40 rfl rfl ?_
  exact z_ireturn 41 rfl rfl (by first | rfl | exact zbo_nar) rfl rfl (by refine ⟨congrArg (fun z => some (Value.int z)) ?_, rfl⟩; revert a; decide +kernel)
set_option maxHeartbeats 4000000 in
set_option maxRecDepth 100000 in
theorem l_Mo_bits {G : zG} {n u : Nat} {μ : Nat → va_E} {a0 : Int32} : ∀ k a c, a < 64 → pcn a = k → zW G 0 M_Mo_bits 4 [.int a0, .int (nI c), .int (nI a)] [] n u μ n u (zE (some (.int (nI (c + k)))) μ)
  | k, a, c, ha, hk => by
    by_cases h0 : a = 0
    · subst h0
      obtain rfl : k = 0 := hk.symm
      refine z_il2 (pc' := 5) 4 rfl rfl ?_
      refine z_if_eq_t 5 rfl (tgt := 20) rfl rfl ?_
      refine z_il1 (pc' := 21) 14 rfl rfl ?_
      exact z_ireturn 15 rfl rfl (by first | rfl | exact zbo_nar) rfl rfl (by exact ⟨rfl, rfl⟩)
    · obtain ⟨s1, s2⟩ := pcn_s a ha h0
      match k, hk with
      | 0, hk => exfalso; omega
      | k + 1, hk =>
        refine z_il2 (pc' := 5) 4 rfl rfl ?_
        first | refine z_if_eqB (pc' := 8) 5 rfl rfl (tgt := 20) rfl (fun h5 => ?_) (fun h5 => ?_) | refine z_if_eqN (pc' := 8) 5 rfl rfl (tgt := 20) rfl (by omega) (fun h5 => ?_) (fun h5 => ?_) | refine z_if_eq (pc' := 8) 5 rfl rfl (tgt := 20) rfl (fun h5 => ?_) (fun h5 => ?_)
        · exact absurd h5 h0
        · first | refine z_inc1N rfl rfl (pc' := 11) 6 rfl rfl ?_ | refine z_inc1 rfl rfl rfl (pc' := 11) 6 rfl rfl ?_
          refine z_il2 (pc' := 12) 7 rfl rfl ?_
          refine z_il2 (pc' := 13) 8 rfl rfl ?_
          refine z_iconst (v := nI 1) (by decide) (pc' := 14) 9 rfl rfl ?_
          first | refine z_isubN (by omega) (pc' := 15) 10 rfl rfl ?_ | refine z_isub (pc' := 15) 10 rfl rfl ?_
          refine z_iand (pc' := 16) 11 rfl rfl ?_
          rw [nb_and]
          refine z_is2 rfl rfl (pc' := 17) 12 rfl rfl ?_
          refine z_goto 13 rfl (tgt := 4) rfl ?_
          rw [show c + (k + 1) = c + 1 + k by omega]
          exact l_Mo_bits k (a &&& (a - 1)) (c + 1) s2 (by omega)
set_option maxHeartbeats 4000000 in
set_option maxRecDepth 100000 in
theorem c_Mo_bits {G : zG} {n u : Nat} {μ : Nat → va_E} {a : Nat} (ha : a < 64) : zMet G 0 M_Mo_bits [.int (nI a)] n u μ n u (zE (some (.int (nI (pcn a)))) μ) := by
  refine z_start (lv := [.int (nI a), .retAddr 0, .retAddr 0]) K_Mo_bits rfl rfl (Nat.le_refl _) (Nat.le_refl _) (Nat.le_of_ble_eq_true rfl) rfl ?_
  refine z_iconst (v := nI 0) (by decide) (pc' := 1) 0 rfl rfl ?_
  refine z_is1 rfl rfl (pc' := 2) 1 rfl rfl ?_
  refine z_il0 (pc' := 3) 2 rfl rfl ?_
  refine z_is2 rfl rfl (pc' := 4) 3 rfl rfl ?_
  have h := l_Mo_bits (G := G) (n := n) (u := u) (μ := μ) (a0 := nI a) (pcn a) a 0 ha rfl
  rw [Nat.zero_add] at h
  exact h
