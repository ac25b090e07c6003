/-! ===== books and coasts, anywhere ===== -/
def pbk (ν : Nat → va_E) (b : Nat) (c z : Int32) (kd de bg co : Nat → Int32) : Nat → va_E := zu (zu (zu (zu (zu (ν) (b) (.inr (0, [.int c, .ref (b + 1), .ref (b + 2), .ref (b + 3), .ref (b + 4), .int z]))) (b + 1) (.inl (0, 8, .inl kd))) (b + 2) (.inl (0, 8, .inl de))) (b + 3) (.inl (0, 9, .inl bg))) (b + 4) (.inl (0, 200, .inl co))
section
variable {ν : Nat → va_E} {b : Nat} {c z : Int32} {kd de bg co : Nat → Int32}
theorem pbk_0 : pbk ν b c z kd de bg co (b) = .inr (0, [.int c, .ref (b + 1), .ref (b + 2), .ref (b + 3), .ref (b + 4), .int z]) := by
  unfold pbk
  rw [zu_n (by omega), zu_n (by omega), zu_n (by omega), zu_n (by omega), zu_s]
theorem pbk_1 : pbk ν b c z kd de bg co (b + 1) = .inl (0, 8, .inl kd) := by
  unfold pbk
  rw [zu_n (by omega), zu_n (by omega), zu_n (by omega), zu_s]
theorem pbk_2 : pbk ν b c z kd de bg co (b + 2) = .inl (0, 8, .inl de) := by
  unfold pbk
  rw [zu_n (by omega), zu_n (by omega), zu_s]
theorem pbk_3 : pbk ν b c z kd de bg co (b + 3) = .inl (0, 9, .inl bg) := by
  unfold pbk
  rw [zu_n (by omega), zu_s]
theorem pbk_4 : pbk ν b c z kd de bg co (b + 4) = .inl (0, 200, .inl co) := by
  unfold pbk
  rw [zu_s]
theorem pbk_o {i : Nat} (h : i ≠ b ∧ i ≠ b + 1 ∧ i ≠ b + 2 ∧ i ≠ b + 3 ∧ i ≠ b + 4) : pbk ν b c z kd de bg co i = ν i := by
  unfold pbk
  rw [zu_n (by omega), zu_n (by omega), zu_n (by omega), zu_n (by omega), zu_n (by omega)]
theorem pbk_z0 {e : va_E} : zu (pbk ν b c z kd de bg co) (b) e = zu (zu (zu (zu (zu (ν) (b) (e)) (b + 1) (.inl (0, 8, .inl kd))) (b + 2) (.inl (0, 8, .inl de))) (b + 3) (.inl (0, 9, .inl bg))) (b + 4) (.inl (0, 200, .inl co)) := by
  unfold pbk
  rw [zu_sw (a := b + 4) (b := b) (by omega), zu_sw (a := b + 3) (b := b) (by omega), zu_sw (a := b + 2) (b := b) (by omega), zu_sw (a := b + 1) (b := b) (by omega), zu_zu]
theorem pbk_z1 {e : va_E} : zu (pbk ν b c z kd de bg co) (b + 1) e = zu (zu (zu (zu (zu (ν) (b) (.inr (0, [.int c, .ref (b + 1), .ref (b + 2), .ref (b + 3), .ref (b + 4), .int z]))) (b + 1) (e)) (b + 2) (.inl (0, 8, .inl de))) (b + 3) (.inl (0, 9, .inl bg))) (b + 4) (.inl (0, 200, .inl co)) := by
  unfold pbk
  rw [zu_sw (a := b + 4) (b := b + 1) (by omega), zu_sw (a := b + 3) (b := b + 1) (by omega), zu_sw (a := b + 2) (b := b + 1) (by omega), zu_zu]
theorem pbk_z2 {e : va_E} : zu (pbk ν b c z kd de bg co) (b + 2) e = zu (zu (zu (zu (zu (ν) (b) (.inr (0, [.int c, .ref (b + 1), .ref (b + 2), .ref (b + 3), .ref (b + 4), .int z]))) (b + 1) (.inl (0, 8, .inl kd))) (b + 2) (e)) (b + 3) (.inl (0, 9, .inl bg))) (b + 4) (.inl (0, 200, .inl co)) := by
  unfold pbk
  rw [zu_sw (a := b + 4) (b := b + 2) (by omega), zu_sw (a := b + 3) (b := b + 2) (by omega), zu_zu]
theorem pbk_z3 {e : va_E} : zu (pbk ν b c z kd de bg co) (b + 3) e = zu (zu (zu (zu (zu (ν) (b) (.inr (0, [.int c, .ref (b + 1), .ref (b + 2), .ref (b + 3), .ref (b + 4), .int z]))) (b + 1) (.inl (0, 8, .inl kd))) (b + 2) (.inl (0, 8, .inl de))) (b + 3) (e)) (b + 4) (.inl (0, 200, .inl co)) := by
  unfold pbk
  rw [zu_sw (a := b + 4) (b := b + 3) (by omega), zu_zu]
theorem pbk_z4 {e : va_E} : zu (pbk ν b c z kd de bg co) (b + 4) e = zu (zu (zu (zu (zu (ν) (b) (.inr (0, [.int c, .ref (b + 1), .ref (b + 2), .ref (b + 3), .ref (b + 4), .int z]))) (b + 1) (.inl (0, 8, .inl kd))) (b + 2) (.inl (0, 8, .inl de))) (b + 3) (.inl (0, 9, .inl bg))) (b + 4) (e) := by
  unfold pbk
  rw [zu_zu]
theorem pbk_id (h0 : ν (b) = .inr (0, [.int c, .ref (b + 1), .ref (b + 2), .ref (b + 3), .ref (b + 4), .int z])) (h1 : ν (b + 1) = .inl (0, 8, .inl kd)) (h2 : ν (b + 2) = .inl (0, 8, .inl de)) (h3 : ν (b + 3) = .inl (0, 9, .inl bg)) (h4 : ν (b + 4) = .inl (0, 200, .inl co)) : pbk ν b c z kd de bg co = ν := by
  unfold pbk
  rw [zu_id h0, zu_id h1, zu_id h2, zu_id h3, zu_id h4]
theorem pbk_out {i : Nat} {e : va_E} (h : i ≠ b ∧ i ≠ b + 1 ∧ i ≠ b + 2 ∧ i ≠ b + 3 ∧ i ≠ b + 4) : zu (pbk ν b c z kd de bg co) i e = pbk (zu ν i e) b c z kd de bg co := by
  unfold pbk
  rw [zu_sw (a := b + 4) (b := i) (by omega), zu_sw (a := b + 3) (b := i) (by omega), zu_sw (a := b + 2) (b := i) (by omega), zu_sw (a := b + 1) (b := i) (by omega), zu_sw (a := b) (b := i) (by omega)]
end
def isBI (μ : Nat → va_E) (b : Nat) (c z : Int32) (kd de bg co : Nat → Int32) : Prop := μ b = .inr (0, [.int c, .ref (b + 1), .ref (b + 2), .ref (b + 3), .ref (b + 4), .int z]) ∧ μ (b + 1) = .inl (0, 8, .inl kd) ∧ μ (b + 2) = .inl (0, 8, .inl de) ∧ μ (b + 3) = .inl (0, 9, .inl bg) ∧ μ (b + 4) = .inl (0, 200, .inl co)
theorem isBI_fr {μ μ' : Nat → va_E} {b : Nat} {c z : Int32} {kd de bg co : Nat → Int32} (h : isBI μ b c z kd de bg co) (hf : ∀ i, b ≤ i → i ≤ b + 4 → μ' i = μ i) : isBI μ' b c z kd de bg co := by
  obtain ⟨h0, h1, h2, h3, h4⟩ := h
  refine ⟨?_, ?_, ?_, ?_, ?_⟩ <;> rw [hf _ (by omega) (by omega)] <;> assumption
theorem isBI_pbk {ν : Nat → va_E} {b : Nat} {c z : Int32} {kd de bg co : Nat → Int32} : isBI (pbk ν b c z kd de bg co) b c z kd de bg co := ⟨pbk_0, pbk_1, pbk_2, pbk_3, pbk_4⟩
theorem cpy_cpN {f g : Nat → Int32} {k j : Nat} : va_cpy f g 0 0 k j = cpN f g k j := by
  unfold cpN
  by_cases h : j < k
  · rw [if_pos h, pk_cpy_in (Nat.zero_le _) (by omega), Nat.zero_add, Nat.sub_zero]
  · rw [if_neg h, pk_cpy_out (by omega)]
set_option maxHeartbeats 4000000 in
set_option maxRecDepth 100000 in
theorem c_Bk_copyFrom {G : zG} {n u : Nat} {μ : Nat → va_E} {a b : Nat} {c0 z0 : Int32} {kd0 de0 bg0 co0 : Nat → Int32} {c : Int32} {zs : Nat} {kd de bg co : Nat → Int32} (ha : isBI μ a c0 z0 kd0 de0 bg0 co0) (hb : isBI μ b c (nI zs) kd de bg co) (hz : zs ≤ 200) (hab : a + 4 < b ∨ b + 4 < a) : zMet G 1 M_Bk_copyFrom [.ref a, .ref b] n u μ n u (zE none (pbk μ a c (nI zs) kd de bg (cpN co co0 zs))) := by
  obtain ⟨a0, a1, a2, a3, a4⟩ := ha
  obtain ⟨b0, b1, b2, b3, b4⟩ := hb
  refine z_start (lv := [.ref a, .ref b]) K_Bk_copyFrom rfl rfl (Nat.le_refl _) (Nat.le_refl _) (Nat.le_of_ble_eq_true rfl) rfl ?_
  refine z_mu (pbk_id a0 a1 a2 a3 a4).symm ?_
  refine z_al0 (pc' := 1) 0 rfl rfl ?_
  refine z_al1 (pc' := 2) 1 rfl rfl ?_
  refine z_getf (pc' := 5) 2 rfl rfl f_Bk_26_0 (by first | exact pbk_0 | exact pbk_1 | exact pbk_2 | exact pbk_3 | exact pbk_4 | (rw [pbk_o (by omega)]; assumption)) (by rfl) ?_
  refine z_putf (pc' := 8) 3 rfl rfl f_Bk_26_0 (by first | exact pbk_0 | exact pbk_1 | exact pbk_2 | exact pbk_3 | exact pbk_4 | (rw [pbk_o (by omega)]; assumption)) rfl rfl (by rfl) (by rfl) ?_
  dsimp only [List.set]
  rw [pbk_z0]
  refine z_mu (show _ = pbk μ a c z0 kd0 de0 bg0 co0 from rfl) ?_
  refine z_al0 (pc' := 9) 4 rfl rfl ?_
  refine z_al1 (pc' := 10) 5 rfl rfl ?_
  refine z_getf (pc' := 13) 6 rfl rfl f_Bk_30_0 (by first | exact pbk_0 | exact pbk_1 | exact pbk_2 | exact pbk_3 | exact pbk_4 | (rw [pbk_o (by omega)]; assumption)) (by rfl) ?_
  refine z_putf (pc' := 16) 7 rfl rfl f_Bk_30_0 (by first | exact pbk_0 | exact pbk_1 | exact pbk_2 | exact pbk_3 | exact pbk_4 | (rw [pbk_o (by omega)]; assumption)) rfl rfl (by rfl) (by rfl) ?_
  dsimp only [List.set]
  rw [pbk_z0]
  refine z_mu (show _ = pbk μ a c (nI zs) kd0 de0 bg0 co0 from rfl) ?_
  refine z_al1 (pc' := 17) 8 rfl rfl ?_
  refine z_getf (pc' := 20) 9 rfl rfl f_Bk_11_0 (by first | exact pbk_0 | exact pbk_1 | exact pbk_2 | exact pbk_3 | exact pbk_4 | (rw [pbk_o (by omega)]; assumption)) (by rfl) ?_
  refine z_iconst (v := nI 0) (by decide) (pc' := 21) 10 rfl rfl ?_
  refine z_al0 (pc' := 22) 11 rfl rfl ?_
  refine z_getf (pc' := 25) 12 rfl rfl f_Bk_11_0 (by first | exact pbk_0 | exact pbk_1 | exact pbk_2 | exact pbk_3 | exact pbk_4 | (rw [pbk_o (by omega)]; assumption)) (by rfl) ?_
  refine z_iconst (v := nI 0) (by decide) (pc' := 26) 13 rfl rfl ?_
  refine z_bipush (v := nI 8) (by decide) (pc' := 28) 14 rfl rfl ?_
  refine z_copy (pc' := 31) 15 rfl rfl (by decide) ky_Bk_33 ky_nat ky_sta ky_ini (by first | exact pbk_0 | exact pbk_1 | exact pbk_2 | exact pbk_3 | exact pbk_4 | (rw [pbk_o (by omega)]; assumption)) (by first | exact pbk_0 | exact pbk_1 | exact pbk_2 | exact pbk_3 | exact pbk_4 | (rw [pbk_o (by omega)]; assumption)) (by decide) (by decide) (by omega) (by omega) (Nat.le_of_ble_eq_true rfl) ?_
  refine z_ext kd zu_s (fun j hj => sb_cpy0 hj) ?_
  rw [zu_zu, pbk_z1]
  refine z_mu (show _ = pbk μ a c (nI zs) kd de0 bg0 co0 from rfl) ?_
  refine z_al1 (pc' := 32) 16 rfl rfl ?_
  refine z_getf (pc' := 35) 17 rfl rfl f_Bk_15_0 (by first | exact pbk_0 | exact pbk_1 | exact pbk_2 | exact pbk_3 | exact pbk_4 | (rw [pbk_o (by omega)]; assumption)) (by rfl) ?_
  refine z_iconst (v := nI 0) (by decide) (pc' := 36) 18 rfl rfl ?_
  refine z_al0 (pc' := 37) 19 rfl rfl ?_
  refine z_getf (pc' := 40) 20 rfl rfl f_Bk_15_0 (by first | exact pbk_0 | exact pbk_1 | exact pbk_2 | exact pbk_3 | exact pbk_4 | (rw [pbk_o (by omega)]; assumption)) (by rfl) ?_
  refine z_iconst (v := nI 0) (by decide) (pc' := 41) 21 rfl rfl ?_
  refine z_bipush (v := nI 8) (by decide) (pc' := 43) 22 rfl rfl ?_
  refine z_copy (pc' := 46) 23 rfl rfl (by decide) ky_Bk_33 ky_nat ky_sta ky_ini (by first | exact pbk_0 | exact pbk_1 | exact pbk_2 | exact pbk_3 | exact pbk_4 | (rw [pbk_o (by omega)]; assumption)) (by first | exact pbk_0 | exact pbk_1 | exact pbk_2 | exact pbk_3 | exact pbk_4 | (rw [pbk_o (by omega)]; assumption)) (by decide) (by decide) (by omega) (by omega) (Nat.le_of_ble_eq_true rfl) ?_
  refine z_ext de zu_s (fun j hj => sb_cpy0 hj) ?_
  rw [zu_zu, pbk_z2]
  refine z_mu (show _ = pbk μ a c (nI zs) kd de bg0 co0 from rfl) ?_
  refine z_al1 (pc' := 47) 24 rfl rfl ?_
  refine z_getf (pc' := 50) 25 rfl rfl f_Bk_18_0 (by first | exact pbk_0 | exact pbk_1 | exact pbk_2 | exact pbk_3 | exact pbk_4 | (rw [pbk_o (by omega)]; assumption)) (by rfl) ?_
  refine z_iconst (v := nI 0) (by decide) (pc' := 51) 26 rfl rfl ?_
  refine z_al0 (pc' := 52) 27 rfl rfl ?_
  refine z_getf (pc' := 55) 28 rfl rfl f_Bk_18_0 (by first | exact pbk_0 | exact pbk_1 | exact pbk_2 | exact pbk_3 | exact pbk_4 | (rw [pbk_o (by omega)]; assumption)) (by rfl) ?_
  refine z_iconst (v := nI 0) (by decide) (pc' := 56) 29 rfl rfl ?_
  refine z_bipush (v := nI 9) (by decide) (pc' := 58) 30 rfl rfl ?_
  refine z_copy (pc' := 61) 31 rfl rfl (by decide) ky_Bk_33 ky_nat ky_sta ky_ini (by first | exact pbk_0 | exact pbk_1 | exact pbk_2 | exact pbk_3 | exact pbk_4 | (rw [pbk_o (by omega)]; assumption)) (by first | exact pbk_0 | exact pbk_1 | exact pbk_2 | exact pbk_3 | exact pbk_4 | (rw [pbk_o (by omega)]; assumption)) (by decide) (by decide) (by omega) (by omega) (Nat.le_of_ble_eq_true rfl) ?_
  refine z_ext bg zu_s (fun j hj => sb_cpy0 hj) ?_
  rw [zu_zu, pbk_z3]
  refine z_mu (show _ = pbk μ a c (nI zs) kd de bg co0 from rfl) ?_
  refine z_al1 (pc' := 62) 32 rfl rfl ?_
  refine z_getf (pc' := 65) 33 rfl rfl f_Bk_23_0 (by first | exact pbk_0 | exact pbk_1 | exact pbk_2 | exact pbk_3 | exact pbk_4 | (rw [pbk_o (by omega)]; assumption)) (by rfl) ?_
  refine z_iconst (v := nI 0) (by decide) (pc' := 66) 34 rfl rfl ?_
  refine z_al0 (pc' := 67) 35 rfl rfl ?_
  refine z_getf (pc' := 70) 36 rfl rfl f_Bk_23_0 (by first | exact pbk_0 | exact pbk_1 | exact pbk_2 | exact pbk_3 | exact pbk_4 | (rw [pbk_o (by omega)]; assumption)) (by rfl) ?_
  refine z_iconst (v := nI 0) (by decide) (pc' := 71) 37 rfl rfl ?_
  refine z_al1 (pc' := 72) 38 rfl rfl ?_
  refine z_getf (pc' := 75) 39 rfl rfl f_Bk_30_0 (by first | exact pbk_0 | exact pbk_1 | exact pbk_2 | exact pbk_3 | exact pbk_4 | (rw [pbk_o (by omega)]; assumption)) (by rfl) ?_
  refine z_copy (pc' := 78) 40 rfl rfl (by decide) ky_Bk_33 ky_nat ky_sta ky_ini (by first | exact pbk_0 | exact pbk_1 | exact pbk_2 | exact pbk_3 | exact pbk_4 | (rw [pbk_o (by omega)]; assumption)) (by first | exact pbk_0 | exact pbk_1 | exact pbk_2 | exact pbk_3 | exact pbk_4 | (rw [pbk_o (by omega)]; assumption)) (by decide) (by decide) (by omega) (by omega) (Nat.le_of_ble_eq_true rfl) ?_
  refine z_ext (cpN co co0 zs) zu_s (fun j hj => cpy_cpN) ?_
  rw [zu_zu, pbk_z4]
  refine z_mu (show _ = pbk μ a c (nI zs) kd de bg (cpN co co0 zs) from rfl) ?_
  exact z_return 41 rfl rfl rfl rfl (by exact ⟨rfl, rfl⟩)
def pcA (ν : Nat → va_E) (A : Nat) (o : Nat → Int32) (k : Nat → Nat → Int32) : Nat → va_E := zu (zu (zu (zu (zu (zu (zu (zu (zu (ν) (A) (.inr (3, [.int (o 0), .ref (A + 1), .ref (A + 2), .ref (A + 3), .int (o 4), .ref (A + 4), .ref (A + 5), .ref (A + 6), .ref (A + 7), .int (o 9), .int (o 10), .int (o 11), .ref (A + 8), .ref (A + 12), .int (o 14), .ref (A + 17), .ref (A + 18)]))) (A + 1) (.inl (0, 6, .inl (k 1)))) (A + 2) (.inl (0, 6, .inl (k 2)))) (A + 3) (.inl (0, 6, .inl (k 3)))) (A + 4) (.inl (0, 6, .inl (k 4)))) (A + 5) (.inl (0, 6, .inl (k 5)))) (A + 6) (.inl (0, 6, .inl (k 6)))) (A + 7) (.inl (0, 6, .inl (k 7)))) (A + 17) (.inl (0, 24, .inl (k 8)))
section
variable {ν : Nat → va_E} {A : Nat} {o : Nat → Int32} {k : Nat → Nat → Int32}
theorem pcA_0 : pcA ν A o k (A) = .inr (3, [.int (o 0), .ref (A + 1), .ref (A + 2), .ref (A + 3), .int (o 4), .ref (A + 4), .ref (A + 5), .ref (A + 6), .ref (A + 7), .int (o 9), .int (o 10), .int (o 11), .ref (A + 8), .ref (A + 12), .int (o 14), .ref (A + 17), .ref (A + 18)]) := by
  unfold pcA
  rw [zu_n (by omega), zu_n (by omega), zu_n (by omega), zu_n (by omega), zu_n (by omega), zu_n (by omega), zu_n (by omega), zu_n (by omega), zu_s]
theorem pcA_1 : pcA ν A o k (A + 1) = .inl (0, 6, .inl (k 1)) := by
  unfold pcA
  rw [zu_n (by omega), zu_n (by omega), zu_n (by omega), zu_n (by omega), zu_n (by omega), zu_n (by omega), zu_n (by omega), zu_s]
theorem pcA_2 : pcA ν A o k (A + 2) = .inl (0, 6, .inl (k 2)) := by
  unfold pcA
  rw [zu_n (by omega), zu_n (by omega), zu_n (by omega), zu_n (by omega), zu_n (by omega), zu_n (by omega), zu_s]
theorem pcA_3 : pcA ν A o k (A + 3) = .inl (0, 6, .inl (k 3)) := by
  unfold pcA
  rw [zu_n (by omega), zu_n (by omega), zu_n (by omega), zu_n (by omega), zu_n (by omega), zu_s]
theorem pcA_4 : pcA ν A o k (A + 4) = .inl (0, 6, .inl (k 4)) := by
  unfold pcA
  rw [zu_n (by omega), zu_n (by omega), zu_n (by omega), zu_n (by omega), zu_s]
theorem pcA_5 : pcA ν A o k (A + 5) = .inl (0, 6, .inl (k 5)) := by
  unfold pcA
  rw [zu_n (by omega), zu_n (by omega), zu_n (by omega), zu_s]
theorem pcA_6 : pcA ν A o k (A + 6) = .inl (0, 6, .inl (k 6)) := by
  unfold pcA
  rw [zu_n (by omega), zu_n (by omega), zu_s]
theorem pcA_7 : pcA ν A o k (A + 7) = .inl (0, 6, .inl (k 7)) := by
  unfold pcA
  rw [zu_n (by omega), zu_s]
theorem pcA_17 : pcA ν A o k (A + 17) = .inl (0, 24, .inl (k 8)) := by
  unfold pcA
  rw [zu_s]
theorem pcA_o {i : Nat} (h : i ≠ A ∧ i ≠ A + 1 ∧ i ≠ A + 2 ∧ i ≠ A + 3 ∧ i ≠ A + 4 ∧ i ≠ A + 5 ∧ i ≠ A + 6 ∧ i ≠ A + 7 ∧ i ≠ A + 17) : pcA ν A o k i = ν i := by
  unfold pcA
  rw [zu_n (by omega), zu_n (by omega), zu_n (by omega), zu_n (by omega), zu_n (by omega), zu_n (by omega), zu_n (by omega), zu_n (by omega), zu_n (by omega)]
theorem pcA_z0 {e : va_E} : zu (pcA ν A o k) (A) e = zu (zu (zu (zu (zu (zu (zu (zu (zu (ν) (A) (e)) (A + 1) (.inl (0, 6, .inl (k 1)))) (A + 2) (.inl (0, 6, .inl (k 2)))) (A + 3) (.inl (0, 6, .inl (k 3)))) (A + 4) (.inl (0, 6, .inl (k 4)))) (A + 5) (.inl (0, 6, .inl (k 5)))) (A + 6) (.inl (0, 6, .inl (k 6)))) (A + 7) (.inl (0, 6, .inl (k 7)))) (A + 17) (.inl (0, 24, .inl (k 8))) := by
  unfold pcA
  rw [zu_sw (a := A + 17) (b := A) (by omega), zu_sw (a := A + 7) (b := A) (by omega), zu_sw (a := A + 6) (b := A) (by omega), zu_sw (a := A + 5) (b := A) (by omega), zu_sw (a := A + 4) (b := A) (by omega), zu_sw (a := A + 3) (b := A) (by omega), zu_sw (a := A + 2) (b := A) (by omega), zu_sw (a := A + 1) (b := A) (by omega), zu_zu]
theorem pcA_z1 {e : va_E} : zu (pcA ν A o k) (A + 1) e = zu (zu (zu (zu (zu (zu (zu (zu (zu (ν) (A) (.inr (3, [.int (o 0), .ref (A + 1), .ref (A + 2), .ref (A + 3), .int (o 4), .ref (A + 4), .ref (A + 5), .ref (A + 6), .ref (A + 7), .int (o 9), .int (o 10), .int (o 11), .ref (A + 8), .ref (A + 12), .int (o 14), .ref (A + 17), .ref (A + 18)]))) (A + 1) (e)) (A + 2) (.inl (0, 6, .inl (k 2)))) (A + 3) (.inl (0, 6, .inl (k 3)))) (A + 4) (.inl (0, 6, .inl (k 4)))) (A + 5) (.inl (0, 6, .inl (k 5)))) (A + 6) (.inl (0, 6, .inl (k 6)))) (A + 7) (.inl (0, 6, .inl (k 7)))) (A + 17) (.inl (0, 24, .inl (k 8))) := by
  unfold pcA
  rw [zu_sw (a := A + 17) (b := A + 1) (by omega), zu_sw (a := A + 7) (b := A + 1) (by omega), zu_sw (a := A + 6) (b := A + 1) (by omega), zu_sw (a := A + 5) (b := A + 1) (by omega), zu_sw (a := A + 4) (b := A + 1) (by omega), zu_sw (a := A + 3) (b := A + 1) (by omega), zu_sw (a := A + 2) (b := A + 1) (by omega), zu_zu]
theorem pcA_z2 {e : va_E} : zu (pcA ν A o k) (A + 2) e = zu (zu (zu (zu (zu (zu (zu (zu (zu (ν) (A) (.inr (3, [.int (o 0), .ref (A + 1), .ref (A + 2), .ref (A + 3), .int (o 4), .ref (A + 4), .ref (A + 5), .ref (A + 6), .ref (A + 7), .int (o 9), .int (o 10), .int (o 11), .ref (A + 8), .ref (A + 12), .int (o 14), .ref (A + 17), .ref (A + 18)]))) (A + 1) (.inl (0, 6, .inl (k 1)))) (A + 2) (e)) (A + 3) (.inl (0, 6, .inl (k 3)))) (A + 4) (.inl (0, 6, .inl (k 4)))) (A + 5) (.inl (0, 6, .inl (k 5)))) (A + 6) (.inl (0, 6, .inl (k 6)))) (A + 7) (.inl (0, 6, .inl (k 7)))) (A + 17) (.inl (0, 24, .inl (k 8))) := by
  unfold pcA
  rw [zu_sw (a := A + 17) (b := A + 2) (by omega), zu_sw (a := A + 7) (b := A + 2) (by omega), zu_sw (a := A + 6) (b := A + 2) (by omega), zu_sw (a := A + 5) (b := A + 2) (by omega), zu_sw (a := A + 4) (b := A + 2) (by omega), zu_sw (a := A + 3) (b := A + 2) (by omega), zu_zu]
theorem pcA_z3 {e : va_E} : zu (pcA ν A o k) (A + 3) e = zu (zu (zu (zu (zu (zu (zu (zu (zu (ν) (A) (.inr (3, [.int (o 0), .ref (A + 1), .ref (A + 2), .ref (A + 3), .int (o 4), .ref (A + 4), .ref (A + 5), .ref (A + 6), .ref (A + 7), .int (o 9), .int (o 10), .int (o 11), .ref (A + 8), .ref (A + 12), .int (o 14), .ref (A + 17), .ref (A + 18)]))) (A + 1) (.inl (0, 6, .inl (k 1)))) (A + 2) (.inl (0, 6, .inl (k 2)))) (A + 3) (e)) (A + 4) (.inl (0, 6, .inl (k 4)))) (A + 5) (.inl (0, 6, .inl (k 5)))) (A + 6) (.inl (0, 6, .inl (k 6)))) (A + 7) (.inl (0, 6, .inl (k 7)))) (A + 17) (.inl (0, 24, .inl (k 8))) := by
  unfold pcA
  rw [zu_sw (a := A + 17) (b := A + 3) (by omega), zu_sw (a := A + 7) (b := A + 3) (by omega), zu_sw (a := A + 6) (b := A + 3) (by omega), zu_sw (a := A + 5) (b := A + 3) (by omega), zu_sw (a := A + 4) (b := A + 3) (by omega), zu_zu]
theorem pcA_z4 {e : va_E} : zu (pcA ν A o k) (A + 4) e = zu (zu (zu (zu (zu (zu (zu (zu (zu (ν) (A) (.inr (3, [.int (o 0), .ref (A + 1), .ref (A + 2), .ref (A + 3), .int (o 4), .ref (A + 4), .ref (A + 5), .ref (A + 6), .ref (A + 7), .int (o 9), .int (o 10), .int (o 11), .ref (A + 8), .ref (A + 12), .int (o 14), .ref (A + 17), .ref (A + 18)]))) (A + 1) (.inl (0, 6, .inl (k 1)))) (A + 2) (.inl (0, 6, .inl (k 2)))) (A + 3) (.inl (0, 6, .inl (k 3)))) (A + 4) (e)) (A + 5) (.inl (0, 6, .inl (k 5)))) (A + 6) (.inl (0, 6, .inl (k 6)))) (A + 7) (.inl (0, 6, .inl (k 7)))) (A + 17) (.inl (0, 24, .inl (k 8))) := by
  unfold pcA
  rw [zu_sw (a := A + 17) (b := A + 4) (by omega), zu_sw (a := A + 7) (b := A + 4) (by omega), zu_sw (a := A + 6) (b := A + 4) (by omega), zu_sw (a := A + 5) (b := A + 4) (by omega), zu_zu]
theorem pcA_z5 {e : va_E} : zu (pcA ν A o k) (A + 5) e = zu (zu (zu (zu (zu (zu (zu (zu (zu (ν) (A) (.inr (3, [.int (o 0), .ref (A + 1), .ref (A + 2), .ref (A + 3), .int (o 4), .ref (A + 4), .ref (A + 5), .ref (A + 6), .ref (A + 7), .int (o 9), .int (o 10), .int (o 11), .ref (A + 8), .ref (A + 12), .int (o 14), .ref (A + 17), .ref (A + 18)]))) (A + 1) (.inl (0, 6, .inl (k 1)))) (A + 2) (.inl (0, 6, .inl (k 2)))) (A + 3) (.inl (0, 6, .inl (k 3)))) (A + 4) (.inl (0, 6, .inl (k 4)))) (A + 5) (e)) (A + 6) (.inl (0, 6, .inl (k 6)))) (A + 7) (.inl (0, 6, .inl (k 7)))) (A + 17) (.inl (0, 24, .inl (k 8))) := by
  unfold pcA
  rw [zu_sw (a := A + 17) (b := A + 5) (by omega), zu_sw (a := A + 7) (b := A + 5) (by omega), zu_sw (a := A + 6) (b := A + 5) (by omega), zu_zu]
theorem pcA_z6 {e : va_E} : zu (pcA ν A o k) (A + 6) e = zu (zu (zu (zu (zu (zu (zu (zu (zu (ν) (A) (.inr (3, [.int (o 0), .ref (A + 1), .ref (A + 2), .ref (A + 3), .int (o 4), .ref (A + 4), .ref (A + 5), .ref (A + 6), .ref (A + 7), .int (o 9), .int (o 10), .int (o 11), .ref (A + 8), .ref (A + 12), .int (o 14), .ref (A + 17), .ref (A + 18)]))) (A + 1) (.inl (0, 6, .inl (k 1)))) (A + 2) (.inl (0, 6, .inl (k 2)))) (A + 3) (.inl (0, 6, .inl (k 3)))) (A + 4) (.inl (0, 6, .inl (k 4)))) (A + 5) (.inl (0, 6, .inl (k 5)))) (A + 6) (e)) (A + 7) (.inl (0, 6, .inl (k 7)))) (A + 17) (.inl (0, 24, .inl (k 8))) := by
  unfold pcA
  rw [zu_sw (a := A + 17) (b := A + 6) (by omega), zu_sw (a := A + 7) (b := A + 6) (by omega), zu_zu]
theorem pcA_z7 {e : va_E} : zu (pcA ν A o k) (A + 7) e = zu (zu (zu (zu (zu (zu (zu (zu (zu (ν) (A) (.inr (3, [.int (o 0), .ref (A + 1), .ref (A + 2), .ref (A + 3), .int (o 4), .ref (A + 4), .ref (A + 5), .ref (A + 6), .ref (A + 7), .int (o 9), .int (o 10), .int (o 11), .ref (A + 8), .ref (A + 12), .int (o 14), .ref (A + 17), .ref (A + 18)]))) (A + 1) (.inl (0, 6, .inl (k 1)))) (A + 2) (.inl (0, 6, .inl (k 2)))) (A + 3) (.inl (0, 6, .inl (k 3)))) (A + 4) (.inl (0, 6, .inl (k 4)))) (A + 5) (.inl (0, 6, .inl (k 5)))) (A + 6) (.inl (0, 6, .inl (k 6)))) (A + 7) (e)) (A + 17) (.inl (0, 24, .inl (k 8))) := by
  unfold pcA
  rw [zu_sw (a := A + 17) (b := A + 7) (by omega), zu_zu]
theorem pcA_z17 {e : va_E} : zu (pcA ν A o k) (A + 17) e = zu (zu (zu (zu (zu (zu (zu (zu (zu (ν) (A) (.inr (3, [.int (o 0), .ref (A + 1), .ref (A + 2), .ref (A + 3), .int (o 4), .ref (A + 4), .ref (A + 5), .ref (A + 6), .ref (A + 7), .int (o 9), .int (o 10), .int (o 11), .ref (A + 8), .ref (A + 12), .int (o 14), .ref (A + 17), .ref (A + 18)]))) (A + 1) (.inl (0, 6, .inl (k 1)))) (A + 2) (.inl (0, 6, .inl (k 2)))) (A + 3) (.inl (0, 6, .inl (k 3)))) (A + 4) (.inl (0, 6, .inl (k 4)))) (A + 5) (.inl (0, 6, .inl (k 5)))) (A + 6) (.inl (0, 6, .inl (k 6)))) (A + 7) (.inl (0, 6, .inl (k 7)))) (A + 17) (e) := by
  unfold pcA
  rw [zu_zu]
theorem pcA_id (h0 : ν (A) = .inr (3, [.int (o 0), .ref (A + 1), .ref (A + 2), .ref (A + 3), .int (o 4), .ref (A + 4), .ref (A + 5), .ref (A + 6), .ref (A + 7), .int (o 9), .int (o 10), .int (o 11), .ref (A + 8), .ref (A + 12), .int (o 14), .ref (A + 17), .ref (A + 18)])) (h1 : ν (A + 1) = .inl (0, 6, .inl (k 1))) (h2 : ν (A + 2) = .inl (0, 6, .inl (k 2))) (h3 : ν (A + 3) = .inl (0, 6, .inl (k 3))) (h4 : ν (A + 4) = .inl (0, 6, .inl (k 4))) (h5 : ν (A + 5) = .inl (0, 6, .inl (k 5))) (h6 : ν (A + 6) = .inl (0, 6, .inl (k 6))) (h7 : ν (A + 7) = .inl (0, 6, .inl (k 7))) (h17 : ν (A + 17) = .inl (0, 24, .inl (k 8))) : pcA ν A o k = ν := by
  unfold pcA
  rw [zu_id h0, zu_id h1, zu_id h2, zu_id h3, zu_id h4, zu_id h5, zu_id h6, zu_id h7, zu_id h17]
theorem pcA_out {i : Nat} {e : va_E} (h : i ≠ A ∧ i ≠ A + 1 ∧ i ≠ A + 2 ∧ i ≠ A + 3 ∧ i ≠ A + 4 ∧ i ≠ A + 5 ∧ i ≠ A + 6 ∧ i ≠ A + 7 ∧ i ≠ A + 17) : zu (pcA ν A o k) i e = pcA (zu ν i e) A o k := by
  unfold pcA
  rw [zu_sw (a := A + 17) (b := i) (by omega), zu_sw (a := A + 7) (b := i) (by omega), zu_sw (a := A + 6) (b := i) (by omega), zu_sw (a := A + 5) (b := i) (by omega), zu_sw (a := A + 4) (b := i) (by omega), zu_sw (a := A + 3) (b := i) (by omega), zu_sw (a := A + 2) (b := i) (by omega), zu_sw (a := A + 1) (b := i) (by omega), zu_sw (a := A) (b := i) (by omega)]
end
def isCA (μ : Nat → va_E) (A : Nat) (o : Nat → Int32) (k : Nat → Nat → Int32) : Prop := μ A = .inr (3, [.int (o 0), .ref (A + 1), .ref (A + 2), .ref (A + 3), .int (o 4), .ref (A + 4), .ref (A + 5), .ref (A + 6), .ref (A + 7), .int (o 9), .int (o 10), .int (o 11), .ref (A + 8), .ref (A + 12), .int (o 14), .ref (A + 17), .ref (A + 18)]) ∧ μ (A + 1) = .inl (0, 6, .inl (k 1)) ∧ μ (A + 2) = .inl (0, 6, .inl (k 2)) ∧ μ (A + 3) = .inl (0, 6, .inl (k 3)) ∧ μ (A + 4) = .inl (0, 6, .inl (k 4)) ∧ μ (A + 5) = .inl (0, 6, .inl (k 5)) ∧ μ (A + 6) = .inl (0, 6, .inl (k 6)) ∧ μ (A + 7) = .inl (0, 6, .inl (k 7)) ∧ μ (A + 17) = .inl (0, 24, .inl (k 8))
theorem isCA_fr {μ μ' : Nat → va_E} {A : Nat} {o : Nat → Int32} {k : Nat → Nat → Int32} (h : isCA μ A o k) (hf : ∀ i, A ≤ i → i ≤ A + 7 ∨ i = A + 17 → μ' i = μ i) : isCA μ' A o k := by
  obtain ⟨h0, h1, h2, h3, h4, h5, h6, h7, h8⟩ := h
  refine ⟨?_, ?_, ?_, ?_, ?_, ?_, ?_, ?_, ?_⟩ <;> rw [hf _ (by omega) (by omega)] <;> assumption
theorem c_Cr_copyG {G : zG} {n u : Nat} {μ : Nat → va_E} {a b mo cs m0 c0 : Nat} {pr fa qb p0 f0 q0 : Nat → Nat} (ha : isCr μ a m0 c0 p0 f0 q0) (hb : isCr μ b mo cs pr fa qb) (hab : b + 3 < a ∨ a + 3 < b) : zMet G 1 M_Cr_copyFrom [.ref a, .ref b] n u μ n u (zE none (pcr μ a mo cs pr fa q0)) := by
  have h := c_Cr_copyFrom (G := G) (n := n) (u := u) (m0 := m0) (c0 := c0) (p0 := p0) (f0 := f0) (q0 := q0) hb hab
  rw [pcr_id ha] at h
  exact h
def o6 (o o' : Nat → Int32) : Nat → Int32 := fun i => if i = 0 ∨ i = 4 ∨ i = 9 ∨ i = 10 ∨ i = 11 ∨ i = 14 then o' i else o i
/-- behind copyFrom -/
def cpF (μ : Nat → va_E) (A : Nat) (o : Nat → Int32) (k : Nat → Nat → Int32) (mo cs : Nat) (pr fa q0 : Nat → Nat) (c z : Int32) (kd de bg co : Nat → Int32) : Nat → va_E := pcA (pbk (pcr μ (A + 8) mo cs pr fa q0) (A + 12) c z kd de bg co) A o k
section
variable {ν : Nat → va_E} {A : Nat} {o : Nat → Int32} {k : Nat → Nat → Int32}
theorem pcr_pcA {mo cs : Nat} {pr fa q : Nat → Nat} : pcr (pcA ν A o k) (A + 8) mo cs pr fa q = pcA (pcr ν (A + 8) mo cs pr fa q) A o k := by
  unfold pcr
  rw [pcA_out (by omega), pcA_out (by omega), pcA_out (by omega), pcA_out (by omega)]
theorem pbk_pcA {c z : Int32} {kd de bg co : Nat → Int32} : pbk (pcA ν A o k) (A + 12) c z kd de bg co = pcA (pbk ν (A + 12) c z kd de bg co) A o k := by
  unfold pbk
  rw [pcA_out (by omega), pcA_out (by omega), pcA_out (by omega), pcA_out (by omega), pcA_out (by omega)]
end
set_option maxHeartbeats 4000000 in
set_option maxRecDepth 100000 in
theorem c_Co_copyFrom {G : zG} {n u : Nat} {μ : Nat → va_E} {A B : Nat} {o o' : Nat → Int32} {k k' : Nat → Nat → Int32} {m0 c0 mo cs : Nat} {p0 f0 q0 pr fa qb : Nat → Nat} {ca za : Int32} {kda dea bga co0 : Nat → Int32} {c : Int32} {zs : Nat} {kd de bg co : Nat → Int32}
    (hA : isCA μ A o k) (hB : isCA μ B o' k') (hA8 : isCr μ (A + 8) m0 c0 p0 f0 q0) (hB8 : isCr μ (B + 8) mo cs pr fa qb) (hA12 : isBI μ (A + 12) ca za kda dea bga co0) (hB12 : isBI μ (B + 12) c (nI zs) kd de bg co) (hz : zs ≤ 200) (hab : A + 18 < B ∨ B + 18 < A) :
    zMet G 2 M_Co_copyFrom [.ref A, .ref B] n u μ n u (zE none (pcA (pbk (pcr μ (A + 8) mo cs pr fa q0) (A + 12) c (nI zs) kd de bg (cpN co co0 zs)) A (un (un (un (un (un (un o 0 (o' 0)) 4 (o' 4)) 9 (o' 9)) 10 (o' 10)) 11 (o' 11)) 14 (o' 14)) (un (un (un (un (un (un (un (un k 1 (k' 1)) 2 (k' 2)) 3 (k' 3)) 4 (k' 4)) 5 (k' 5)) 6 (k' 6)) 7 (k' 7)) 8 (k' 8)))) := by
  obtain ⟨a0, a1, a2, a3, a4, a5, a6, a7, a17⟩ := hA
  obtain ⟨b0, b1, b2, b3, b4, b5, b6, b7, b17⟩ := hB
  have a8 := hA8.1
  have b8 := hB8.1
  have a12 := hA12.1
  have b12 := hB12.1
  refine z_start (lv := [.ref A, .ref B]) K_Co_copyFrom rfl rfl (Nat.le_refl _) (Nat.le_refl _) (Nat.le_of_ble_eq_true rfl) rfl ?_
  refine z_mu (pcA_id a0 a1 a2 a3 a4 a5 a6 a7 a17).symm ?_
  refine z_al0 (pc' := 1) 0 rfl rfl ?_
  refine z_al1 (pc' := 2) 1 rfl rfl ?_
  refine z_getf (pc' := 5) 2 rfl rfl f_Co_60_3 (by first | exact pcA_0 | exact pcA_1 | exact pcA_2 | exact pcA_3 | exact pcA_4 | exact pcA_5 | exact pcA_6 | exact pcA_7 | exact pcA_17 | (rw [pcA_o (by omega)]; first | assumption | exact pbk_0 | exact pcr_0 | (rw [pcr_o (by omega)]; assumption) | (rw [pbk_o (by omega)]; first | assumption | exact pcr_0 | (rw [pcr_o (by omega)]; assumption)))) (by rfl) ?_
  refine z_putf (pc' := 8) 3 rfl rfl f_Co_60_3 (by first | exact pcA_0 | exact pcA_1 | exact pcA_2 | exact pcA_3 | exact pcA_4 | exact pcA_5 | exact pcA_6 | exact pcA_7 | exact pcA_17 | (rw [pcA_o (by omega)]; first | assumption | exact pbk_0 | exact pcr_0 | (rw [pcr_o (by omega)]; assumption) | (rw [pbk_o (by omega)]; first | assumption | exact pcr_0 | (rw [pcr_o (by omega)]; assumption)))) rfl rfl (by rfl) (by rfl) ?_
  dsimp only [List.set]
  rw [pcA_z0]
  refine z_mu (show _ = pcA μ A (un o 0 (o' 0)) k from rfl) ?_
  refine z_al1 (pc' := 9) 4 rfl rfl ?_
  refine z_getf (pc' := 12) 5 rfl rfl f_Co_9_3 (by first | exact pcA_0 | exact pcA_1 | exact pcA_2 | exact pcA_3 | exact pcA_4 | exact pcA_5 | exact pcA_6 | exact pcA_7 | exact pcA_17 | (rw [pcA_o (by omega)]; first | assumption | exact pbk_0 | exact pcr_0 | (rw [pcr_o (by omega)]; assumption) | (rw [pbk_o (by omega)]; first | assumption | exact pcr_0 | (rw [pcr_o (by omega)]; assumption)))) (by rfl) ?_
  refine z_iconst (v := nI 0) (by decide) (pc' := 13) 6 rfl rfl ?_
  refine z_al0 (pc' := 14) 7 rfl rfl ?_
  refine z_getf (pc' := 17) 8 rfl rfl f_Co_9_3 (by first | exact pcA_0 | exact pcA_1 | exact pcA_2 | exact pcA_3 | exact pcA_4 | exact pcA_5 | exact pcA_6 | exact pcA_7 | exact pcA_17 | (rw [pcA_o (by omega)]; first | assumption | exact pbk_0 | exact pcr_0 | (rw [pcr_o (by omega)]; assumption) | (rw [pbk_o (by omega)]; first | assumption | exact pcr_0 | (rw [pcr_o (by omega)]; assumption)))) (by rfl) ?_
  refine z_iconst (v := nI 0) (by decide) (pc' := 18) 9 rfl rfl ?_
  refine z_bipush (v := nI 6) (by decide) (pc' := 20) 10 rfl rfl ?_
  refine z_copy (pc' := 23) 11 rfl rfl (by decide) ky_Co_63 ky_nat ky_sta ky_ini (by first | exact pcA_0 | exact pcA_1 | exact pcA_2 | exact pcA_3 | exact pcA_4 | exact pcA_5 | exact pcA_6 | exact pcA_7 | exact pcA_17 | (rw [pcA_o (by omega)]; first | assumption | exact pbk_0 | exact pcr_0 | (rw [pcr_o (by omega)]; assumption) | (rw [pbk_o (by omega)]; first | assumption | exact pcr_0 | (rw [pcr_o (by omega)]; assumption)))) (by first | exact pcA_0 | exact pcA_1 | exact pcA_2 | exact pcA_3 | exact pcA_4 | exact pcA_5 | exact pcA_6 | exact pcA_7 | exact pcA_17 | (rw [pcA_o (by omega)]; first | assumption | exact pbk_0 | exact pcr_0 | (rw [pcr_o (by omega)]; assumption) | (rw [pbk_o (by omega)]; first | assumption | exact pcr_0 | (rw [pcr_o (by omega)]; assumption)))) (by decide) (by decide) (by omega) (by omega) (Nat.le_of_ble_eq_true rfl) ?_
  refine z_ext (k' 1) zu_s (fun j hj => sb_cpy0 hj) ?_
  rw [zu_zu, pcA_z1]
  refine z_mu (show _ = pcA μ A (un o 0 (o' 0)) (un k 1 (k' 1)) from rfl) ?_
  refine z_al1 (pc' := 24) 12 rfl rfl ?_
  refine z_getf (pc' := 27) 13 rfl rfl f_Co_15_3 (by first | exact pcA_0 | exact pcA_1 | exact pcA_2 | exact pcA_3 | exact pcA_4 | exact pcA_5 | exact pcA_6 | exact pcA_7 | exact pcA_17 | (rw [pcA_o (by omega)]; first | assumption | exact pbk_0 | exact pcr_0 | (rw [pcr_o (by omega)]; assumption) | (rw [pbk_o (by omega)]; first | assumption | exact pcr_0 | (rw [pcr_o (by omega)]; assumption)))) (by rfl) ?_
  refine z_iconst (v := nI 0) (by decide) (pc' := 28) 14 rfl rfl ?_
  refine z_al0 (pc' := 29) 15 rfl rfl ?_
  refine z_getf (pc' := 32) 16 rfl rfl f_Co_15_3 (by first | exact pcA_0 | exact pcA_1 | exact pcA_2 | exact pcA_3 | exact pcA_4 | exact pcA_5 | exact pcA_6 | exact pcA_7 | exact pcA_17 | (rw [pcA_o (by omega)]; first | assumption | exact pbk_0 | exact pcr_0 | (rw [pcr_o (by omega)]; assumption) | (rw [pbk_o (by omega)]; first | assumption | exact pcr_0 | (rw [pcr_o (by omega)]; assumption)))) (by rfl) ?_
  refine z_iconst (v := nI 0) (by decide) (pc' := 33) 17 rfl rfl ?_
  refine z_bipush (v := nI 6) (by decide) (pc' := 35) 18 rfl rfl ?_
  refine z_copy (pc' := 38) 19 rfl rfl (by decide) ky_Co_63 ky_nat ky_sta ky_ini (by first | exact pcA_0 | exact pcA_1 | exact pcA_2 | exact pcA_3 | exact pcA_4 | exact pcA_5 | exact pcA_6 | exact pcA_7 | exact pcA_17 | (rw [pcA_o (by omega)]; first | assumption | exact pbk_0 | exact pcr_0 | (rw [pcr_o (by omega)]; assumption) | (rw [pbk_o (by omega)]; first | assumption | exact pcr_0 | (rw [pcr_o (by omega)]; assumption)))) (by first | exact pcA_0 | exact pcA_1 | exact pcA_2 | exact pcA_3 | exact pcA_4 | exact pcA_5 | exact pcA_6 | exact pcA_7 | exact pcA_17 | (rw [pcA_o (by omega)]; first | assumption | exact pbk_0 | exact pcr_0 | (rw [pcr_o (by omega)]; assumption) | (rw [pbk_o (by omega)]; first | assumption | exact pcr_0 | (rw [pcr_o (by omega)]; assumption)))) (by decide) (by decide) (by omega) (by omega) (Nat.le_of_ble_eq_true rfl) ?_
  refine z_ext (k' 2) zu_s (fun j hj => sb_cpy0 hj) ?_
  rw [zu_zu, pcA_z2]
  refine z_mu (show _ = pcA μ A (un o 0 (o' 0)) (un (un k 1 (k' 1)) 2 (k' 2)) from rfl) ?_
  refine z_al1 (pc' := 39) 20 rfl rfl ?_
  refine z_getf (pc' := 42) 21 rfl rfl f_Co_18_3 (by first | exact pcA_0 | exact pcA_1 | exact pcA_2 | exact pcA_3 | exact pcA_4 | exact pcA_5 | exact pcA_6 | exact pcA_7 | exact pcA_17 | (rw [pcA_o (by omega)]; first | assumption | exact pbk_0 | exact pcr_0 | (rw [pcr_o (by omega)]; assumption) | (rw [pbk_o (by omega)]; first | assumption | exact pcr_0 | (rw [pcr_o (by omega)]; assumption)))) (by rfl) ?_
  refine z_iconst (v := nI 0) (by decide) (pc' := 43) 22 rfl rfl ?_
  refine z_al0 (pc' := 44) 23 rfl rfl ?_
  refine z_getf (pc' := 47) 24 rfl rfl f_Co_18_3 (by first | exact pcA_0 | exact pcA_1 | exact pcA_2 | exact pcA_3 | exact pcA_4 | exact pcA_5 | exact pcA_6 | exact pcA_7 | exact pcA_17 | (rw [pcA_o (by omega)]; first | assumption | exact pbk_0 | exact pcr_0 | (rw [pcr_o (by omega)]; assumption) | (rw [pbk_o (by omega)]; first | assumption | exact pcr_0 | (rw [pcr_o (by omega)]; assumption)))) (by rfl) ?_
  refine z_iconst (v := nI 0) (by decide) (pc' := 48) 25 rfl rfl ?_
  refine z_bipush (v := nI 6) (by decide) (pc' := 50) 26 rfl rfl ?_
  refine z_copy (pc' := 53) 27 rfl rfl (by decide) ky_Co_63 ky_nat ky_sta ky_ini (by first | exact pcA_0 | exact pcA_1 | exact pcA_2 | exact pcA_3 | exact pcA_4 | exact pcA_5 | exact pcA_6 | exact pcA_7 | exact pcA_17 | (rw [pcA_o (by omega)]; first | assumption | exact pbk_0 | exact pcr_0 | (rw [pcr_o (by omega)]; assumption) | (rw [pbk_o (by omega)]; first | assumption | exact pcr_0 | (rw [pcr_o (by omega)]; assumption)))) (by first | exact pcA_0 | exact pcA_1 | exact pcA_2 | exact pcA_3 | exact pcA_4 | exact pcA_5 | exact pcA_6 | exact pcA_7 | exact pcA_17 | (rw [pcA_o (by omega)]; first | assumption | exact pbk_0 | exact pcr_0 | (rw [pcr_o (by omega)]; assumption) | (rw [pbk_o (by omega)]; first | assumption | exact pcr_0 | (rw [pcr_o (by omega)]; assumption)))) (by decide) (by decide) (by omega) (by omega) (Nat.le_of_ble_eq_true rfl) ?_
  refine z_ext (k' 3) zu_s (fun j hj => sb_cpy0 hj) ?_
  rw [zu_zu, pcA_z3]
  refine z_mu (show _ = pcA μ A (un o 0 (o' 0)) (un (un (un k 1 (k' 1)) 2 (k' 2)) 3 (k' 3)) from rfl) ?_
  refine z_al0 (pc' := 54) 28 rfl rfl ?_
  refine z_al1 (pc' := 55) 29 rfl rfl ?_
  refine z_getf (pc' := 58) 30 rfl rfl f_Co_69_3 (by first | exact pcA_0 | exact pcA_1 | exact pcA_2 | exact pcA_3 | exact pcA_4 | exact pcA_5 | exact pcA_6 | exact pcA_7 | exact pcA_17 | (rw [pcA_o (by omega)]; first | assumption | exact pbk_0 | exact pcr_0 | (rw [pcr_o (by omega)]; assumption) | (rw [pbk_o (by omega)]; first | assumption | exact pcr_0 | (rw [pcr_o (by omega)]; assumption)))) (by rfl) ?_
  refine z_putf (pc' := 61) 31 rfl rfl f_Co_69_3 (by first | exact pcA_0 | exact pcA_1 | exact pcA_2 | exact pcA_3 | exact pcA_4 | exact pcA_5 | exact pcA_6 | exact pcA_7 | exact pcA_17 | (rw [pcA_o (by omega)]; first | assumption | exact pbk_0 | exact pcr_0 | (rw [pcr_o (by omega)]; assumption) | (rw [pbk_o (by omega)]; first | assumption | exact pcr_0 | (rw [pcr_o (by omega)]; assumption)))) rfl rfl (by rfl) (by rfl) ?_
  dsimp only [List.set]
  rw [pcA_z0]
  refine z_mu (show _ = pcA μ A (un (un o 0 (o' 0)) 4 (o' 4)) (un (un (un k 1 (k' 1)) 2 (k' 2)) 3 (k' 3)) from rfl) ?_
  refine z_al1 (pc' := 62) 32 rfl rfl ?_
  refine z_getf (pc' := 65) 33 rfl rfl f_Co_21_3 (by first | exact pcA_0 | exact pcA_1 | exact pcA_2 | exact pcA_3 | exact pcA_4 | exact pcA_5 | exact pcA_6 | exact pcA_7 | exact pcA_17 | (rw [pcA_o (by omega)]; first | assumption | exact pbk_0 | exact pcr_0 | (rw [pcr_o (by omega)]; assumption) | (rw [pbk_o (by omega)]; first | assumption | exact pcr_0 | (rw [pcr_o (by omega)]; assumption)))) (by rfl) ?_
  refine z_iconst (v := nI 0) (by decide) (pc' := 66) 34 rfl rfl ?_
  refine z_al0 (pc' := 67) 35 rfl rfl ?_
  refine z_getf (pc' := 70) 36 rfl rfl f_Co_21_3 (by first | exact pcA_0 | exact pcA_1 | exact pcA_2 | exact pcA_3 | exact pcA_4 | exact pcA_5 | exact pcA_6 | exact pcA_7 | exact pcA_17 | (rw [pcA_o (by omega)]; first | assumption | exact pbk_0 | exact pcr_0 | (rw [pcr_o (by omega)]; assumption) | (rw [pbk_o (by omega)]; first | assumption | exact pcr_0 | (rw [pcr_o (by omega)]; assumption)))) (by rfl) ?_
  refine z_iconst (v := nI 0) (by decide) (pc' := 71) 37 rfl rfl ?_
  refine z_bipush (v := nI 6) (by decide) (pc' := 73) 38 rfl rfl ?_
  refine z_copy (pc' := 76) 39 rfl rfl (by decide) ky_Co_63 ky_nat ky_sta ky_ini (by first | exact pcA_0 | exact pcA_1 | exact pcA_2 | exact pcA_3 | exact pcA_4 | exact pcA_5 | exact pcA_6 | exact pcA_7 | exact pcA_17 | (rw [pcA_o (by omega)]; first | assumption | exact pbk_0 | exact pcr_0 | (rw [pcr_o (by omega)]; assumption) | (rw [pbk_o (by omega)]; first | assumption | exact pcr_0 | (rw [pcr_o (by omega)]; assumption)))) (by first | exact pcA_0 | exact pcA_1 | exact pcA_2 | exact pcA_3 | exact pcA_4 | exact pcA_5 | exact pcA_6 | exact pcA_7 | exact pcA_17 | (rw [pcA_o (by omega)]; first | assumption | exact pbk_0 | exact pcr_0 | (rw [pcr_o (by omega)]; assumption) | (rw [pbk_o (by omega)]; first | assumption | exact pcr_0 | (rw [pcr_o (by omega)]; assumption)))) (by decide) (by decide) (by omega) (by omega) (Nat.le_of_ble_eq_true rfl) ?_
  refine z_ext (k' 4) zu_s (fun j hj => sb_cpy0 hj) ?_
  rw [zu_zu, pcA_z4]
  refine z_mu (show _ = pcA μ A (un (un o 0 (o' 0)) 4 (o' 4)) (un (un (un (un k 1 (k' 1)) 2 (k' 2)) 3 (k' 3)) 4 (k' 4)) from rfl) ?_
  refine z_al1 (pc' := 77) 40 rfl rfl ?_
  refine z_getf (pc' := 80) 41 rfl rfl f_Co_24_3 (by first | exact pcA_0 | exact pcA_1 | exact pcA_2 | exact pcA_3 | exact pcA_4 | exact pcA_5 | exact pcA_6 | exact pcA_7 | exact pcA_17 | (rw [pcA_o (by omega)]; first | assumption | exact pbk_0 | exact pcr_0 | (rw [pcr_o (by omega)]; assumption) | (rw [pbk_o (by omega)]; first | assumption | exact pcr_0 | (rw [pcr_o (by omega)]; assumption)))) (by rfl) ?_
  refine z_iconst (v := nI 0) (by decide) (pc' := 81) 42 rfl rfl ?_
  refine z_al0 (pc' := 82) 43 rfl rfl ?_
  refine z_getf (pc' := 85) 44 rfl rfl f_Co_24_3 (by first | exact pcA_0 | exact pcA_1 | exact pcA_2 | exact pcA_3 | exact pcA_4 | exact pcA_5 | exact pcA_6 | exact pcA_7 | exact pcA_17 | (rw [pcA_o (by omega)]; first | assumption | exact pbk_0 | exact pcr_0 | (rw [pcr_o (by omega)]; assumption) | (rw [pbk_o (by omega)]; first | assumption | exact pcr_0 | (rw [pcr_o (by omega)]; assumption)))) (by rfl) ?_
  refine z_iconst (v := nI 0) (by decide) (pc' := 86) 45 rfl rfl ?_
  refine z_bipush (v := nI 6) (by decide) (pc' := 88) 46 rfl rfl ?_
  refine z_copy (pc' := 91) 47 rfl rfl (by decide) ky_Co_63 ky_nat ky_sta ky_ini (by first | exact pcA_0 | exact pcA_1 | exact pcA_2 | exact pcA_3 | exact pcA_4 | exact pcA_5 | exact pcA_6 | exact pcA_7 | exact pcA_17 | (rw [pcA_o (by omega)]; first | assumption | exact pbk_0 | exact pcr_0 | (rw [pcr_o (by omega)]; assumption) | (rw [pbk_o (by omega)]; first | assumption | exact pcr_0 | (rw [pcr_o (by omega)]; assumption)))) (by first | exact pcA_0 | exact pcA_1 | exact pcA_2 | exact pcA_3 | exact pcA_4 | exact pcA_5 | exact pcA_6 | exact pcA_7 | exact pcA_17 | (rw [pcA_o (by omega)]; first | assumption | exact pbk_0 | exact pcr_0 | (rw [pcr_o (by omega)]; assumption) | (rw [pbk_o (by omega)]; first | assumption | exact pcr_0 | (rw [pcr_o (by omega)]; assumption)))) (by decide) (by decide) (by omega) (by omega) (Nat.le_of_ble_eq_true rfl) ?_
  refine z_ext (k' 5) zu_s (fun j hj => sb_cpy0 hj) ?_
  rw [zu_zu, pcA_z5]
  refine z_mu (show _ = pcA μ A (un (un o 0 (o' 0)) 4 (o' 4)) (un (un (un (un (un k 1 (k' 1)) 2 (k' 2)) 3 (k' 3)) 4 (k' 4)) 5 (k' 5)) from rfl) ?_
  refine z_al1 (pc' := 92) 48 rfl rfl ?_
  refine z_getf (pc' := 95) 49 rfl rfl f_Co_27_3 (by first | exact pcA_0 | exact pcA_1 | exact pcA_2 | exact pcA_3 | exact pcA_4 | exact pcA_5 | exact pcA_6 | exact pcA_7 | exact pcA_17 | (rw [pcA_o (by omega)]; first | assumption | exact pbk_0 | exact pcr_0 | (rw [pcr_o (by omega)]; assumption) | (rw [pbk_o (by omega)]; first | assumption | exact pcr_0 | (rw [pcr_o (by omega)]; assumption)))) (by rfl) ?_
  refine z_iconst (v := nI 0) (by decide) (pc' := 96) 50 rfl rfl ?_
  refine z_al0 (pc' := 97) 51 rfl rfl ?_
  refine z_getf (pc' := 100) 52 rfl rfl f_Co_27_3 (by first | exact pcA_0 | exact pcA_1 | exact pcA_2 | exact pcA_3 | exact pcA_4 | exact pcA_5 | exact pcA_6 | exact pcA_7 | exact pcA_17 | (rw [pcA_o (by omega)]; first | assumption | exact pbk_0 | exact pcr_0 | (rw [pcr_o (by omega)]; assumption) | (rw [pbk_o (by omega)]; first | assumption | exact pcr_0 | (rw [pcr_o (by omega)]; assumption)))) (by rfl) ?_
  refine z_iconst (v := nI 0) (by decide) (pc' := 101) 53 rfl rfl ?_
  refine z_bipush (v := nI 6) (by decide) (pc' := 103) 54 rfl rfl ?_
  refine z_copy (pc' := 106) 55 rfl rfl (by decide) ky_Co_63 ky_nat ky_sta ky_ini (by first | exact pcA_0 | exact pcA_1 | exact pcA_2 | exact pcA_3 | exact pcA_4 | exact pcA_5 | exact pcA_6 | exact pcA_7 | exact pcA_17 | (rw [pcA_o (by omega)]; first | assumption | exact pbk_0 | exact pcr_0 | (rw [pcr_o (by omega)]; assumption) | (rw [pbk_o (by omega)]; first | assumption | exact pcr_0 | (rw [pcr_o (by omega)]; assumption)))) (by first | exact pcA_0 | exact pcA_1 | exact pcA_2 | exact pcA_3 | exact pcA_4 | exact pcA_5 | exact pcA_6 | exact pcA_7 | exact pcA_17 | (rw [pcA_o (by omega)]; first | assumption | exact pbk_0 | exact pcr_0 | (rw [pcr_o (by omega)]; assumption) | (rw [pbk_o (by omega)]; first | assumption | exact pcr_0 | (rw [pcr_o (by omega)]; assumption)))) (by decide) (by decide) (by omega) (by omega) (Nat.le_of_ble_eq_true rfl) ?_
  refine z_ext (k' 6) zu_s (fun j hj => sb_cpy0 hj) ?_
  rw [zu_zu, pcA_z6]
  refine z_mu (show _ = pcA μ A (un (un o 0 (o' 0)) 4 (o' 4)) (un (un (un (un (un (un k 1 (k' 1)) 2 (k' 2)) 3 (k' 3)) 4 (k' 4)) 5 (k' 5)) 6 (k' 6)) from rfl) ?_
  refine z_al1 (pc' := 107) 56 rfl rfl ?_
  refine z_getf (pc' := 110) 57 rfl rfl f_Co_30_3 (by first | exact pcA_0 | exact pcA_1 | exact pcA_2 | exact pcA_3 | exact pcA_4 | exact pcA_5 | exact pcA_6 | exact pcA_7 | exact pcA_17 | (rw [pcA_o (by omega)]; first | assumption | exact pbk_0 | exact pcr_0 | (rw [pcr_o (by omega)]; assumption) | (rw [pbk_o (by omega)]; first | assumption | exact pcr_0 | (rw [pcr_o (by omega)]; assumption)))) (by rfl) ?_
  refine z_iconst (v := nI 0) (by decide) (pc' := 111) 58 rfl rfl ?_
  refine z_al0 (pc' := 112) 59 rfl rfl ?_
  refine z_getf (pc' := 115) 60 rfl rfl f_Co_30_3 (by first | exact pcA_0 | exact pcA_1 | exact pcA_2 | exact pcA_3 | exact pcA_4 | exact pcA_5 | exact pcA_6 | exact pcA_7 | exact pcA_17 | (rw [pcA_o (by omega)]; first | assumption | exact pbk_0 | exact pcr_0 | (rw [pcr_o (by omega)]; assumption) | (rw [pbk_o (by omega)]; first | assumption | exact pcr_0 | (rw [pcr_o (by omega)]; assumption)))) (by rfl) ?_
  refine z_iconst (v := nI 0) (by decide) (pc' := 116) 61 rfl rfl ?_
  refine z_bipush (v := nI 6) (by decide) (pc' := 118) 62 rfl rfl ?_
  refine z_copy (pc' := 121) 63 rfl rfl (by decide) ky_Co_63 ky_nat ky_sta ky_ini (by first | exact pcA_0 | exact pcA_1 | exact pcA_2 | exact pcA_3 | exact pcA_4 | exact pcA_5 | exact pcA_6 | exact pcA_7 | exact pcA_17 | (rw [pcA_o (by omega)]; first | assumption | exact pbk_0 | exact pcr_0 | (rw [pcr_o (by omega)]; assumption) | (rw [pbk_o (by omega)]; first | assumption | exact pcr_0 | (rw [pcr_o (by omega)]; assumption)))) (by first | exact pcA_0 | exact pcA_1 | exact pcA_2 | exact pcA_3 | exact pcA_4 | exact pcA_5 | exact pcA_6 | exact pcA_7 | exact pcA_17 | (rw [pcA_o (by omega)]; first | assumption | exact pbk_0 | exact pcr_0 | (rw [pcr_o (by omega)]; assumption) | (rw [pbk_o (by omega)]; first | assumption | exact pcr_0 | (rw [pcr_o (by omega)]; assumption)))) (by decide) (by decide) (by omega) (by omega) (Nat.le_of_ble_eq_true rfl) ?_
  refine z_ext (k' 7) zu_s (fun j hj => sb_cpy0 hj) ?_
  rw [zu_zu, pcA_z7]
  refine z_mu (show _ = pcA μ A (un (un o 0 (o' 0)) 4 (o' 4)) (un (un (un (un (un (un (un k 1 (k' 1)) 2 (k' 2)) 3 (k' 3)) 4 (k' 4)) 5 (k' 5)) 6 (k' 6)) 7 (k' 7)) from rfl) ?_
  refine z_al0 (pc' := 122) 64 rfl rfl ?_
  refine z_al1 (pc' := 123) 65 rfl rfl ?_
  refine z_getf (pc' := 126) 66 rfl rfl f_Co_33_3 (by first | exact pcA_0 | exact pcA_1 | exact pcA_2 | exact pcA_3 | exact pcA_4 | exact pcA_5 | exact pcA_6 | exact pcA_7 | exact pcA_17 | (rw [pcA_o (by omega)]; first | assumption | exact pbk_0 | exact pcr_0 | (rw [pcr_o (by omega)]; assumption) | (rw [pbk_o (by omega)]; first | assumption | exact pcr_0 | (rw [pcr_o (by omega)]; assumption)))) (by rfl) ?_
  refine z_putf (pc' := 129) 67 rfl rfl f_Co_33_3 (by first | exact pcA_0 | exact pcA_1 | exact pcA_2 | exact pcA_3 | exact pcA_4 | exact pcA_5 | exact pcA_6 | exact pcA_7 | exact pcA_17 | (rw [pcA_o (by omega)]; first | assumption | exact pbk_0 | exact pcr_0 | (rw [pcr_o (by omega)]; assumption) | (rw [pbk_o (by omega)]; first | assumption | exact pcr_0 | (rw [pcr_o (by omega)]; assumption)))) rfl rfl (by rfl) (by rfl) ?_
  dsimp only [List.set]
  rw [pcA_z0]
  refine z_mu (show _ = pcA μ A (un (un (un o 0 (o' 0)) 4 (o' 4)) 9 (o' 9)) (un (un (un (un (un (un (un k 1 (k' 1)) 2 (k' 2)) 3 (k' 3)) 4 (k' 4)) 5 (k' 5)) 6 (k' 6)) 7 (k' 7)) from rfl) ?_
  refine z_al0 (pc' := 130) 68 rfl rfl ?_
  refine z_al1 (pc' := 131) 69 rfl rfl ?_
  refine z_getf (pc' := 134) 70 rfl rfl f_Co_72_3 (by first | exact pcA_0 | exact pcA_1 | exact pcA_2 | exact pcA_3 | exact pcA_4 | exact pcA_5 | exact pcA_6 | exact pcA_7 | exact pcA_17 | (rw [pcA_o (by omega)]; first | assumption | exact pbk_0 | exact pcr_0 | (rw [pcr_o (by omega)]; assumption) | (rw [pbk_o (by omega)]; first | assumption | exact pcr_0 | (rw [pcr_o (by omega)]; assumption)))) (by rfl) ?_
  refine z_putf (pc' := 137) 71 rfl rfl f_Co_72_3 (by first | exact pcA_0 | exact pcA_1 | exact pcA_2 | exact pcA_3 | exact pcA_4 | exact pcA_5 | exact pcA_6 | exact pcA_7 | exact pcA_17 | (rw [pcA_o (by omega)]; first | assumption | exact pbk_0 | exact pcr_0 | (rw [pcr_o (by omega)]; assumption) | (rw [pbk_o (by omega)]; first | assumption | exact pcr_0 | (rw [pcr_o (by omega)]; assumption)))) rfl rfl (by rfl) (by rfl) ?_
  dsimp only [List.set]
  rw [pcA_z0]
  refine z_mu (show _ = pcA μ A (un (un (un (un o 0 (o' 0)) 4 (o' 4)) 9 (o' 9)) 10 (o' 10)) (un (un (un (un (un (un (un k 1 (k' 1)) 2 (k' 2)) 3 (k' 3)) 4 (k' 4)) 5 (k' 5)) 6 (k' 6)) 7 (k' 7)) from rfl) ?_
  refine z_al0 (pc' := 138) 72 rfl rfl ?_
  refine z_al1 (pc' := 139) 73 rfl rfl ?_
  refine z_getf (pc' := 142) 74 rfl rfl f_Co_37_3 (by first | exact pcA_0 | exact pcA_1 | exact pcA_2 | exact pcA_3 | exact pcA_4 | exact pcA_5 | exact pcA_6 | exact pcA_7 | exact pcA_17 | (rw [pcA_o (by omega)]; first | assumption | exact pbk_0 | exact pcr_0 | (rw [pcr_o (by omega)]; assumption) | (rw [pbk_o (by omega)]; first | assumption | exact pcr_0 | (rw [pcr_o (by omega)]; assumption)))) (by rfl) ?_
  refine z_putf (pc' := 145) 75 rfl rfl f_Co_37_3 (by first | exact pcA_0 | exact pcA_1 | exact pcA_2 | exact pcA_3 | exact pcA_4 | exact pcA_5 | exact pcA_6 | exact pcA_7 | exact pcA_17 | (rw [pcA_o (by omega)]; first | assumption | exact pbk_0 | exact pcr_0 | (rw [pcr_o (by omega)]; assumption) | (rw [pbk_o (by omega)]; first | assumption | exact pcr_0 | (rw [pcr_o (by omega)]; assumption)))) rfl rfl (by rfl) (by rfl) ?_
  dsimp only [List.set]
  rw [pcA_z0]
  refine z_mu (show _ = pcA μ A (un (un (un (un (un o 0 (o' 0)) 4 (o' 4)) 9 (o' 9)) 10 (o' 10)) 11 (o' 11)) (un (un (un (un (un (un (un k 1 (k' 1)) 2 (k' 2)) 3 (k' 3)) 4 (k' 4)) 5 (k' 5)) 6 (k' 6)) 7 (k' 7)) from rfl) ?_
  refine z_al0 (pc' := 146) 76 rfl rfl ?_
  refine z_getf (pc' := 149) 77 rfl rfl f_Co_43_3 (by first | exact pcA_0 | exact pcA_1 | exact pcA_2 | exact pcA_3 | exact pcA_4 | exact pcA_5 | exact pcA_6 | exact pcA_7 | exact pcA_17 | (rw [pcA_o (by omega)]; first | assumption | exact pbk_0 | exact pcr_0 | (rw [pcr_o (by omega)]; assumption) | (rw [pbk_o (by omega)]; first | assumption | exact pcr_0 | (rw [pcr_o (by omega)]; assumption)))) (by rfl) ?_
  refine z_al1 (pc' := 150) 78 rfl rfl ?_
  refine z_getf (pc' := 153) 79 rfl rfl f_Co_43_3 (by first | exact pcA_0 | exact pcA_1 | exact pcA_2 | exact pcA_3 | exact pcA_4 | exact pcA_5 | exact pcA_6 | exact pcA_7 | exact pcA_17 | (rw [pcA_o (by omega)]; first | assumption | exact pbk_0 | exact pcr_0 | (rw [pcr_o (by omega)]; assumption) | (rw [pbk_o (by omega)]; first | assumption | exact pcr_0 | (rw [pcr_o (by omega)]; assumption)))) (by rfl) ?_
  refine z_callV0 (pc' := 156) 80 rfl rfl k_Co_75 (by first | exact pcA_0 | exact pcA_1 | exact pcA_2 | exact pcA_3 | exact pcA_4 | exact pcA_5 | exact pcA_6 | exact pcA_7 | exact pcA_17 | (rw [pcA_o (by omega)]; first | assumption | exact pbk_0 | exact pcr_0 | (rw [pcr_o (by omega)]; assumption) | (rw [pbk_o (by omega)]; first | assumption | exact pcr_0 | (rw [pcr_o (by omega)]; assumption)))) (c_Cr_copyG (isCr_fr hA8 (fun i x y => pcA_o (by omega))) (isCr_fr hB8 (fun i x y => pcA_o (by omega))) (by omega)) (by decide) (Nat.le_refl _) (Nat.le_refl _) rfl rfl (Nat.le_of_ble_eq_true rfl) ?_
  refine z_mu (show _ = pcA (pcr μ (A + 8) mo cs pr fa q0) A (un (un (un (un (un o 0 (o' 0)) 4 (o' 4)) 9 (o' 9)) 10 (o' 10)) 11 (o' 11)) (un (un (un (un (un (un (un k 1 (k' 1)) 2 (k' 2)) 3 (k' 3)) 4 (k' 4)) 5 (k' 5)) 6 (k' 6)) 7 (k' 7)) from pcr_pcA) ?_
  refine z_al0 (pc' := 157) 81 rfl rfl ?_
  refine z_getf (pc' := 160) 82 rfl rfl f_Co_50_3 (by first | exact pcA_0 | exact pcA_1 | exact pcA_2 | exact pcA_3 | exact pcA_4 | exact pcA_5 | exact pcA_6 | exact pcA_7 | exact pcA_17 | (rw [pcA_o (by omega)]; first | assumption | exact pbk_0 | exact pcr_0 | (rw [pcr_o (by omega)]; assumption) | (rw [pbk_o (by omega)]; first | assumption | exact pcr_0 | (rw [pcr_o (by omega)]; assumption)))) (by rfl) ?_
  refine z_al1 (pc' := 161) 83 rfl rfl ?_
  refine z_getf (pc' := 164) 84 rfl rfl f_Co_50_3 (by first | exact pcA_0 | exact pcA_1 | exact pcA_2 | exact pcA_3 | exact pcA_4 | exact pcA_5 | exact pcA_6 | exact pcA_7 | exact pcA_17 | (rw [pcA_o (by omega)]; first | assumption | exact pbk_0 | exact pcr_0 | (rw [pcr_o (by omega)]; assumption) | (rw [pbk_o (by omega)]; first | assumption | exact pcr_0 | (rw [pcr_o (by omega)]; assumption)))) (by rfl) ?_
  refine z_callV0 (pc' := 167) 85 rfl rfl k_Co_79 (by first | exact pcA_0 | exact pcA_1 | exact pcA_2 | exact pcA_3 | exact pcA_4 | exact pcA_5 | exact pcA_6 | exact pcA_7 | exact pcA_17 | (rw [pcA_o (by omega)]; first | assumption | exact pbk_0 | exact pcr_0 | (rw [pcr_o (by omega)]; assumption) | (rw [pbk_o (by omega)]; first | assumption | exact pcr_0 | (rw [pcr_o (by omega)]; assumption)))) (c_Bk_copyFrom (isBI_fr hA12 (fun i x y => by rw [pcA_o (by omega), pcr_o (by omega)])) (isBI_fr hB12 (fun i x y => by rw [pcA_o (by omega), pcr_o (by omega)])) hz (by omega)) (by decide) (Nat.le_refl _) (Nat.le_refl _) rfl rfl (Nat.le_of_ble_eq_true rfl) ?_
  refine z_mu (show _ = pcA (pbk (pcr μ (A + 8) mo cs pr fa q0) (A + 12) c (nI zs) kd de bg (cpN co co0 zs)) A (un (un (un (un (un o 0 (o' 0)) 4 (o' 4)) 9 (o' 9)) 10 (o' 10)) 11 (o' 11)) (un (un (un (un (un (un (un k 1 (k' 1)) 2 (k' 2)) 3 (k' 3)) 4 (k' 4)) 5 (k' 5)) 6 (k' 6)) 7 (k' 7)) from pbk_pcA) ?_
  refine z_al0 (pc' := 168) 86 rfl rfl ?_
  refine z_al1 (pc' := 169) 87 rfl rfl ?_
  refine z_getf (pc' := 172) 88 rfl rfl f_Co_82_3 (by first | exact pcA_0 | exact pcA_1 | exact pcA_2 | exact pcA_3 | exact pcA_4 | exact pcA_5 | exact pcA_6 | exact pcA_7 | exact pcA_17 | (rw [pcA_o (by omega)]; first | assumption | exact pbk_0 | exact pcr_0 | (rw [pcr_o (by omega)]; assumption) | (rw [pbk_o (by omega)]; first | assumption | exact pcr_0 | (rw [pcr_o (by omega)]; assumption)))) (by rfl) ?_
  refine z_putf (pc' := 175) 89 rfl rfl f_Co_82_3 (by first | exact pcA_0 | exact pcA_1 | exact pcA_2 | exact pcA_3 | exact pcA_4 | exact pcA_5 | exact pcA_6 | exact pcA_7 | exact pcA_17 | (rw [pcA_o (by omega)]; first | assumption | exact pbk_0 | exact pcr_0 | (rw [pcr_o (by omega)]; assumption) | (rw [pbk_o (by omega)]; first | assumption | exact pcr_0 | (rw [pcr_o (by omega)]; assumption)))) rfl rfl (by rfl) (by rfl) ?_
  dsimp only [List.set]
  rw [pcA_z0]
  refine z_mu (show _ = pcA (pbk (pcr μ (A + 8) mo cs pr fa q0) (A + 12) c (nI zs) kd de bg (cpN co co0 zs)) A (un (un (un (un (un (un o 0 (o' 0)) 4 (o' 4)) 9 (o' 9)) 10 (o' 10)) 11 (o' 11)) 14 (o' 14)) (un (un (un (un (un (un (un k 1 (k' 1)) 2 (k' 2)) 3 (k' 3)) 4 (k' 4)) 5 (k' 5)) 6 (k' 6)) 7 (k' 7)) from rfl) ?_
  refine z_al1 (pc' := 176) 90 rfl rfl ?_
  refine z_getf (pc' := 179) 91 rfl rfl f_Co_54_3 (by first | exact pcA_0 | exact pcA_1 | exact pcA_2 | exact pcA_3 | exact pcA_4 | exact pcA_5 | exact pcA_6 | exact pcA_7 | exact pcA_17 | (rw [pcA_o (by omega)]; first | assumption | exact pbk_0 | exact pcr_0 | (rw [pcr_o (by omega)]; assumption) | (rw [pbk_o (by omega)]; first | assumption | exact pcr_0 | (rw [pcr_o (by omega)]; assumption)))) (by rfl) ?_
  refine z_iconst (v := nI 0) (by decide) (pc' := 180) 92 rfl rfl ?_
  refine z_al0 (pc' := 181) 93 rfl rfl ?_
  refine z_getf (pc' := 184) 94 rfl rfl f_Co_54_3 (by first | exact pcA_0 | exact pcA_1 | exact pcA_2 | exact pcA_3 | exact pcA_4 | exact pcA_5 | exact pcA_6 | exact pcA_7 | exact pcA_17 | (rw [pcA_o (by omega)]; first | assumption | exact pbk_0 | exact pcr_0 | (rw [pcr_o (by omega)]; assumption) | (rw [pbk_o (by omega)]; first | assumption | exact pcr_0 | (rw [pcr_o (by omega)]; assumption)))) (by rfl) ?_
  refine z_iconst (v := nI 0) (by decide) (pc' := 185) 95 rfl rfl ?_
  refine z_bipush (v := nI 24) (by decide) (pc' := 187) 96 rfl rfl ?_
  refine z_copy (pc' := 190) 97 rfl rfl (by decide) ky_Co_63 ky_nat ky_sta ky_ini (by first | exact pcA_0 | exact pcA_1 | exact pcA_2 | exact pcA_3 | exact pcA_4 | exact pcA_5 | exact pcA_6 | exact pcA_7 | exact pcA_17 | (rw [pcA_o (by omega)]; first | assumption | exact pbk_0 | exact pcr_0 | (rw [pcr_o (by omega)]; assumption) | (rw [pbk_o (by omega)]; first | assumption | exact pcr_0 | (rw [pcr_o (by omega)]; assumption)))) (by first | exact pcA_0 | exact pcA_1 | exact pcA_2 | exact pcA_3 | exact pcA_4 | exact pcA_5 | exact pcA_6 | exact pcA_7 | exact pcA_17 | (rw [pcA_o (by omega)]; first | assumption | exact pbk_0 | exact pcr_0 | (rw [pcr_o (by omega)]; assumption) | (rw [pbk_o (by omega)]; first | assumption | exact pcr_0 | (rw [pcr_o (by omega)]; assumption)))) (by decide) (by decide) (by omega) (by omega) (Nat.le_of_ble_eq_true rfl) ?_
  refine z_ext (k' 8) zu_s (fun j hj => sb_cpy0 hj) ?_
  rw [zu_zu, pcA_z17]
  refine z_mu (show _ = pcA (pbk (pcr μ (A + 8) mo cs pr fa q0) (A + 12) c (nI zs) kd de bg (cpN co co0 zs)) A (un (un (un (un (un (un o 0 (o' 0)) 4 (o' 4)) 9 (o' 9)) 10 (o' 10)) 11 (o' 11)) 14 (o' 14)) (un (un (un (un (un (un (un (un k 1 (k' 1)) 2 (k' 2)) 3 (k' 3)) 4 (k' 4)) 5 (k' 5)) 6 (k' 6)) 7 (k' 7)) 8 (k' 8)) from rfl) ?_
  exact z_return 98 rfl rfl rfl rfl (by exact ⟨rfl, rfl⟩)
