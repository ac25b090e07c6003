/-! ===== the coast (cell 5): S 0: girls, winds, reports, end; S 1 kind, 2 house, 3 dowry, 4 point, 5 force, 6 from, 7 to, 8 reports' numbers ===== -/
def isCo (μ : Nat → va_E) (S : Nat → Nat → Nat) (sc ch : Int32) : Prop :=
  μ 5 = .inr (3, [.int (nI (S 0 0)), .ref 6, .ref 7, .ref 8, .int (nI (S 0 1)), .ref 9, .ref 10, .ref 11, .ref 12, .int (nI (S 0 3)), .int sc, .int ch, .ref 13, .ref 17, .int (nI (S 0 2)), .ref 22, .ref 23]) ∧
  μ 6 = .inl (0, 6, .inl (fun j => nI (S 1 j))) ∧ μ 7 = .inl (0, 6, .inl (fun j => nI (S 2 j))) ∧ μ 8 = .inl (0, 6, .inl (fun j => nI (S 3 j))) ∧ μ 9 = .inl (0, 6, .inl (fun j => nI (S 4 j))) ∧ μ 10 = .inl (0, 6, .inl (fun j => nI (S 5 j))) ∧ μ 11 = .inl (0, 6, .inl (fun j => nI (S 6 j))) ∧ μ 12 = .inl (0, 6, .inl (fun j => nI (S 7 j))) ∧ μ 22 = .inl (0, 24, .inl (fun j => nI (S 8 j)))
/-- the bounds that always hold -/
def iS (S : Nat → Nat → Nat) : Prop := S 0 0 ≤ 6 ∧ S 0 1 ≤ 6 ∧ S 0 2 ≤ 6 ∧ 1 ≤ S 0 3 ∧ S 0 3 ≤ 16 ∧ ∀ j, S 1 j ≤ 5 ∧ S 2 j ≤ 7 ∧ S 3 j ≤ 9 ∧ S 4 j ≤ 7 ∧ S 5 j ≤ 9 ∧ S 6 j ≤ 15 ∧ S 7 j ≤ 15 ∧ S 8 j ≤ 99 ∧ (j < S 0 0 → 1 ≤ S 3 j)
/-- a wind blows in a month -/
def bl (S : Nat → Nat → Nat) (w t : Nat) : Prop := w < S 0 1 ∧ S 6 w ≤ t ∧ t ≤ S 7 w
def bl_dec (S : Nat → Nat → Nat) (w t : Nat) : Decidable (bl S w t) := inferInstanceAs (Decidable (w < S 0 1 ∧ S 6 w ≤ t ∧ t ≤ S 7 w))
def blB (S : Nat → Nat → Nat) (w t : Nat) : Bool := decide (w < S 0 1) && (decide (S 6 w ≤ t) && decide (t ≤ S 7 w))
theorem blB_iff {S : Nat → Nat → Nat} {w t : Nat} : blB S w t = true ↔ bl S w t := by simp [blB, bl]
/-- what a girl gains by a wind in a month -/
def gS (S : Nat → Nat → Nat) (g w t : Nat) : Nat := gn (S 1 g) (S 5 w) (tn (S 4 w) (S 2 g)) t
theorem gS_le {S : Nat → Nat → Nat} (hi : iS S) {g w t : Nat} : gS S g w t ≤ 18 := gn_le (hi.2.2.2.2.2 w).2.2.2.2.1
def udB (k a : Nat) : Bool := decide (zLin.getD k 0 >>> (nI a &&& 31) &&& nI 1 ≠ 0)
theorem udB_eq : ∀ k, k ≤ 5 → ∀ a, a ≤ 5 → (udB k a = true ↔ (a = 0 ∨ k = a ∨ (a = 2 ∧ k = 3) ∨ (a = 4 ∧ k = 5))) := by decide +kernel
set_option maxHeartbeats 4000000 in
set_option maxRecDepth 100000 in
theorem c_Wb_isUnder {G : zG} {n u : Nat} {μ : Nat → va_E} {k a : Nat} (hk : k ≤ 5) (ha : a ≤ 31) : zMet G 0 M_Wb_isUnder [.int (nI k), .int (nI a)] n u μ n u (zE (some (.int (zbo (udB k a = true)))) μ) := by
  refine z_start (lv := [.int (nI k), .int (nI a)]) K_Wb_isUnder rfl rfl (Nat.le_refl _) (Nat.le_refl _) (Nat.le_of_ble_eq_true rfl) rfl ?_
  refine z_spec (fun hs => ?_)
  have m0 := hs 0 (by decide)
  refine z_getsL (pc' := 3) 0 rfl rfl g_Wb_69 ?_
  refine z_il0 (pc' := 4) 1 rfl rfl ?_
  refine z_iald7 (pc' := 5) 2 rfl rfl (by decide) (by exact m0) (by omega) (by decide) ?_
  refine z_il1 (pc' := 6) 3 rfl rfl ?_
  refine z_ishr (pc' := 7) 4 rfl rfl ?_
  refine z_iconst (v := nI 1) (by decide) (pc' := 8) 5 rfl rfl ?_
  refine z_iand (pc' := 9) 6 rfl rfl ?_
  first | refine z_if_eqB (pc' := 12) 7 rfl rfl (tgt := 16) rfl (fun h9 => ?_) (fun h9 => ?_) | refine z_if_eqN (pc' := 12) 7 rfl rfl (tgt := 16) rfl (by omega) (fun h9 => ?_) (fun h9 => ?_) | refine z_if_eq (pc' := 12) 7 rfl rfl (tgt := 16) rfl (fun h9 => ?_) (fun h9 => ?_)
  · refine z_iconst (v := nI 0) (by decide) (pc' := 17) 10 rfl rfl ?_
    exact z_ireturn 11 rfl rfl (by first | rfl | exact zbo_nar) rfl rfl (by refine ⟨?_, rfl⟩; first | rw [zbo_t (by simp only [udB]; simp only [zspec] at *; simpa using h9)] | rw [zbo_f (by simp only [udB]; simpa using h9)])
  · refine z_iconst (v := nI 1) (by decide) (pc' := 13) 8 rfl rfl ?_
    refine z_goto 9 rfl (tgt := 17) rfl ?_
    exact z_ireturn 11 rfl rfl (by first | rfl | exact zbo_nar) rfl rfl (by refine ⟨?_, rfl⟩; first | rw [zbo_t (by simp only [udB]; simp only [zspec] at *; simpa using h9)] | rw [zbo_f (by simp only [udB]; simpa using h9)])
set_option maxHeartbeats 4000000 in
set_option maxRecDepth 100000 in
theorem c_Co_hasGirl {G : zG} {n u : Nat} {μ : Nat → va_E} {S : Nat → Nat → Nat} {sc ch : Int32} (hco : isCo μ S sc ch) (hi : iS S) (x : Int32) : zMet G 0 M_Co_hasGirl [.ref 5, .int x] n u μ n u (zE (some (.int (zbo (0 ≤ x ∧ x < nI (S 0 0))))) μ) := by
  refine z_start (lv := [.ref 5, .int x]) K_Co_hasGirl rfl rfl (Nat.le_refl _) (Nat.le_refl _) (Nat.le_of_ble_eq_true rfl) rfl ?_
  obtain ⟨m5, m6, m7, m8, m9, m10, m11, m12, m22⟩ := hco
  refine z_il1 (pc' := 1) 0 rfl rfl ?_
  first | refine z_if_ltN (pc' := 4) 1 rfl rfl (tgt := 16) rfl (by omega) (fun h1 => ?_) (fun h1 => ?_) | refine z_if_lt (pc' := 4) 1 rfl rfl (tgt := 16) rfl (fun h1 => ?_) (fun h1 => ?_)
  · refine z_iconst (v := nI 0) (by decide) (pc' := 17) 8 rfl rfl ?_
    exact z_ireturn 9 rfl rfl (by first | rfl | exact zbo_nar) rfl rfl (by refine ⟨?_, rfl⟩; first | rw [zbo_t (by simp only [Int32.lt_iff_toInt_lt, Int32.le_iff_toInt_le, not_and, Classical.not_not] at *; omega)] | rw [zbo_f (by simp only [Int32.lt_iff_toInt_lt, Int32.le_iff_toInt_le, not_and, Classical.not_not] at *; omega)])
  · refine z_il1 (pc' := 5) 2 rfl rfl ?_
    refine z_al0 (pc' := 6) 3 rfl rfl ?_
    refine z_getf (pc' := 9) 4 rfl rfl f_Co_60_3 (by assumption) (by rfl) ?_
    first | refine z_icmp_geN (pc' := 12) 5 rfl rfl (tgt := 16) rfl (by omega) (by omega) (fun h9 => ?_) (fun h9 => ?_) | refine z_icmp_ge (pc' := 12) 5 rfl rfl (tgt := 16) rfl (fun h9 => ?_) (fun h9 => ?_)
    · refine z_iconst (v := nI 0) (by decide) (pc' := 17) 8 rfl rfl ?_
      exact z_ireturn 9 rfl rfl (by first | rfl | exact zbo_nar) rfl rfl (by refine ⟨?_, rfl⟩; first | rw [zbo_t (by simp only [Int32.lt_iff_toInt_lt, Int32.le_iff_toInt_le, not_and, Classical.not_not] at *; omega)] | rw [zbo_f (by simp only [Int32.lt_iff_toInt_lt, Int32.le_iff_toInt_le, not_and, Classical.not_not] at *; omega)])
    · refine z_iconst (v := nI 1) (by decide) (pc' := 13) 6 rfl rfl ?_
      refine z_goto 7 rfl (tgt := 17) rfl ?_
      exact z_ireturn 9 rfl rfl (by first | rfl | exact zbo_nar) rfl rfl (by refine ⟨?_, rfl⟩; first | rw [zbo_t (by simp only [Int32.lt_iff_toInt_lt, Int32.le_iff_toInt_le, not_and, Classical.not_not] at *; omega)] | rw [zbo_f (by simp only [Int32.lt_iff_toInt_lt, Int32.le_iff_toInt_le, not_and, Classical.not_not] at *; omega)])
set_option maxHeartbeats 4000000 in
set_option maxRecDepth 100000 in
theorem c_Co_hasWind {G : zG} {n u : Nat} {μ : Nat → va_E} {S : Nat → Nat → Nat} {sc ch : Int32} (hco : isCo μ S sc ch) (hi : iS S) (x : Int32) : zMet G 0 M_Co_hasWind [.ref 5, .int x] n u μ n u (zE (some (.int (zbo (0 ≤ x ∧ x < nI (S 0 1))))) μ) := by
  refine z_start (lv := [.ref 5, .int x]) K_Co_hasWind rfl rfl (Nat.le_refl _) (Nat.le_refl _) (Nat.le_of_ble_eq_true rfl) rfl ?_
  obtain ⟨m5, m6, m7, m8, m9, m10, m11, m12, m22⟩ := hco
  refine z_il1 (pc' := 1) 0 rfl rfl ?_
  first | refine z_if_ltN (pc' := 4) 1 rfl rfl (tgt := 16) rfl (by omega) (fun h1 => ?_) (fun h1 => ?_) | refine z_if_lt (pc' := 4) 1 rfl rfl (tgt := 16) rfl (fun h1 => ?_) (fun h1 => ?_)
  · refine z_iconst (v := nI 0) (by decide) (pc' := 17) 8 rfl rfl ?_
    exact z_ireturn 9 rfl rfl (by first | rfl | exact zbo_nar) rfl rfl (by refine ⟨?_, rfl⟩; first | rw [zbo_t (by simp only [Int32.lt_iff_toInt_lt, Int32.le_iff_toInt_le, not_and, Classical.not_not] at *; omega)] | rw [zbo_f (by simp only [Int32.lt_iff_toInt_lt, Int32.le_iff_toInt_le, not_and, Classical.not_not] at *; omega)])
  · refine z_il1 (pc' := 5) 2 rfl rfl ?_
    refine z_al0 (pc' := 6) 3 rfl rfl ?_
    refine z_getf (pc' := 9) 4 rfl rfl f_Co_69_3 (by assumption) (by rfl) ?_
    first | refine z_icmp_geN (pc' := 12) 5 rfl rfl (tgt := 16) rfl (by omega) (by omega) (fun h9 => ?_) (fun h9 => ?_) | refine z_icmp_ge (pc' := 12) 5 rfl rfl (tgt := 16) rfl (fun h9 => ?_) (fun h9 => ?_)
    · refine z_iconst (v := nI 0) (by decide) (pc' := 17) 8 rfl rfl ?_
      exact z_ireturn 9 rfl rfl (by first | rfl | exact zbo_nar) rfl rfl (by refine ⟨?_, rfl⟩; first | rw [zbo_t (by simp only [Int32.lt_iff_toInt_lt, Int32.le_iff_toInt_le, not_and, Classical.not_not] at *; omega)] | rw [zbo_f (by simp only [Int32.lt_iff_toInt_lt, Int32.le_iff_toInt_le, not_and, Classical.not_not] at *; omega)])
    · refine z_iconst (v := nI 1) (by decide) (pc' := 13) 6 rfl rfl ?_
      refine z_goto 7 rfl (tgt := 17) rfl ?_
      exact z_ireturn 9 rfl rfl (by first | rfl | exact zbo_nar) rfl rfl (by refine ⟨?_, rfl⟩; first | rw [zbo_t (by simp only [Int32.lt_iff_toInt_lt, Int32.le_iff_toInt_le, not_and, Classical.not_not] at *; omega)] | rw [zbo_f (by simp only [Int32.lt_iff_toInt_lt, Int32.le_iff_toInt_le, not_and, Classical.not_not] at *; omega)])
set_option maxHeartbeats 4000000 in
set_option maxRecDepth 100000 in
theorem c_Co_isAct {G : zG} {n u : Nat} {μ : Nat → va_E} {S : Nat → Nat → Nat} {sc ch : Int32} (hco : isCo μ S sc ch) (hi : iS S) (x : Int32) : zMet G 0 M_Co_isAct [.ref 5, .int x] n u μ n u (zE (some (.int (zbo (0 ≤ x ∧ x ≤ nI (S 0 0))))) μ) := by
  refine z_start (lv := [.ref 5, .int x]) K_Co_isAct rfl rfl (Nat.le_refl _) (Nat.le_refl _) (Nat.le_of_ble_eq_true rfl) rfl ?_
  obtain ⟨m5, m6, m7, m8, m9, m10, m11, m12, m22⟩ := hco
  refine z_il1 (pc' := 1) 0 rfl rfl ?_
  first | refine z_if_ltN (pc' := 4) 1 rfl rfl (tgt := 16) rfl (by omega) (fun h1 => ?_) (fun h1 => ?_) | refine z_if_lt (pc' := 4) 1 rfl rfl (tgt := 16) rfl (fun h1 => ?_) (fun h1 => ?_)
  · refine z_iconst (v := nI 0) (by decide) (pc' := 17) 8 rfl rfl ?_
    exact z_ireturn 9 rfl rfl (by first | rfl | exact zbo_nar) rfl rfl (by refine ⟨?_, rfl⟩; first | rw [zbo_t (by simp only [Int32.lt_iff_toInt_lt, Int32.le_iff_toInt_le, not_and, Classical.not_not] at *; omega)] | rw [zbo_f (by simp only [Int32.lt_iff_toInt_lt, Int32.le_iff_toInt_le, not_and, Classical.not_not] at *; omega)])
  · refine z_il1 (pc' := 5) 2 rfl rfl ?_
    refine z_al0 (pc' := 6) 3 rfl rfl ?_
    refine z_getf (pc' := 9) 4 rfl rfl f_Co_60_3 (by assumption) (by rfl) ?_
    first | refine z_icmp_gtN (pc' := 12) 5 rfl rfl (tgt := 16) rfl (by omega) (by omega) (fun h9 => ?_) (fun h9 => ?_) | refine z_icmp_gt (pc' := 12) 5 rfl rfl (tgt := 16) rfl (fun h9 => ?_) (fun h9 => ?_)
    · refine z_iconst (v := nI 0) (by decide) (pc' := 17) 8 rfl rfl ?_
      exact z_ireturn 9 rfl rfl (by first | rfl | exact zbo_nar) rfl rfl (by refine ⟨?_, rfl⟩; first | rw [zbo_t (by simp only [Int32.lt_iff_toInt_lt, Int32.le_iff_toInt_le, not_and, Classical.not_not] at *; omega)] | rw [zbo_f (by simp only [Int32.lt_iff_toInt_lt, Int32.le_iff_toInt_le, not_and, Classical.not_not] at *; omega)])
    · refine z_iconst (v := nI 1) (by decide) (pc' := 13) 6 rfl rfl ?_
      refine z_goto 7 rfl (tgt := 17) rfl ?_
      exact z_ireturn 9 rfl rfl (by first | rfl | exact zbo_nar) rfl rfl (by refine ⟨?_, rfl⟩; first | rw [zbo_t (by simp only [Int32.lt_iff_toInt_lt, Int32.le_iff_toInt_le, not_and, Classical.not_not] at *; omega)] | rw [zbo_f (by simp only [Int32.lt_iff_toInt_lt, Int32.le_iff_toInt_le, not_and, Classical.not_not] at *; omega)])
set_option maxHeartbeats 4000000 in
set_option maxRecDepth 100000 in
theorem c_Co_blows {G : zG} {n u : Nat} {μ : Nat → va_E} {S : Nat → Nat → Nat} {sc ch : Int32} (hco : isCo μ S sc ch) (hi : iS S) {w t : Nat} (hw : w < 2 ^ 31) (ht : t < 2 ^ 31) : zMet G 0 M_Co_blows [.ref 5, .int (nI w), .int (nI t)] n u μ n u (zE (some (.int (zbo (blB S w t = true)))) μ) := by
  refine z_start (lv := [.ref 5, .int (nI w), .int (nI t)]) K_Co_blows rfl rfl (Nat.le_refl _) (Nat.le_refl _) (Nat.le_of_ble_eq_true rfl) rfl ?_
  obtain ⟨m5, m6, m7, m8, m9, m10, m11, m12, m22⟩ := hco
  have hw9 := hi.2.2.2.2.2 w
  have hi6 : S 0 1 ≤ 6 := hi.2.1
  refine z_il1 (pc' := 1) 0 rfl rfl ?_
  refine z_al0 (pc' := 2) 1 rfl rfl ?_
  refine z_getf (pc' := 5) 2 rfl rfl f_Co_69_3 (by assumption) (by rfl) ?_
  first | refine z_icmp_geN (pc' := 8) 3 rfl rfl (tgt := 32) rfl (by omega) (by omega) (fun h5 => ?_) (fun h5 => ?_) | refine z_icmp_ge (pc' := 8) 3 rfl rfl (tgt := 32) rfl (fun h5 => ?_) (fun h5 => ?_)
  · refine z_iconst (v := nI 0) (by decide) (pc' := 33) 18 rfl rfl ?_
    exact z_ireturn 19 rfl rfl (by first | rfl | exact zbo_nar) rfl rfl (by refine ⟨?_, rfl⟩; first | rw [zbo_t (blB_iff.mpr (by unfold bl; omega))] | rw [zbo_f (fun q => by have := blB_iff.mp q; unfold bl at this; omega)])
  · refine z_al0 (pc' := 9) 4 rfl rfl ?_
    refine z_getf (pc' := 12) 5 rfl rfl f_Co_27_3 (by assumption) (by rfl) ?_
    refine z_il1 (pc' := 13) 6 rfl rfl ?_
    refine z_iald (pc' := 14) 7 rfl rfl (by assumption) (by omega) (by decide) ?_
    refine z_il2 (pc' := 15) 8 rfl rfl ?_
    first | refine z_icmp_gtN (pc' := 18) 9 rfl rfl (tgt := 32) rfl (by omega) (by omega) (fun h15 => ?_) (fun h15 => ?_) | refine z_icmp_gt (pc' := 18) 9 rfl rfl (tgt := 32) rfl (fun h15 => ?_) (fun h15 => ?_)
    · refine z_iconst (v := nI 0) (by decide) (pc' := 33) 18 rfl rfl ?_
      exact z_ireturn 19 rfl rfl (by first | rfl | exact zbo_nar) rfl rfl (by refine ⟨?_, rfl⟩; first | rw [zbo_t (blB_iff.mpr (by unfold bl; omega))] | rw [zbo_f (fun q => by have := blB_iff.mp q; unfold bl at this; omega)])
    · refine z_il2 (pc' := 19) 10 rfl rfl ?_
      refine z_al0 (pc' := 20) 11 rfl rfl ?_
      refine z_getf (pc' := 23) 12 rfl rfl f_Co_30_3 (by assumption) (by rfl) ?_
      refine z_il1 (pc' := 24) 13 rfl rfl ?_
      refine z_iald (pc' := 25) 14 rfl rfl (by assumption) (by omega) (by decide) ?_
      first | refine z_icmp_gtN (pc' := 28) 15 rfl rfl (tgt := 32) rfl (by omega) (by omega) (fun h25 => ?_) (fun h25 => ?_) | refine z_icmp_gt (pc' := 28) 15 rfl rfl (tgt := 32) rfl (fun h25 => ?_) (fun h25 => ?_)
      · refine z_iconst (v := nI 0) (by decide) (pc' := 33) 18 rfl rfl ?_
        exact z_ireturn 19 rfl rfl (by first | rfl | exact zbo_nar) rfl rfl (by refine ⟨?_, rfl⟩; first | rw [zbo_t (blB_iff.mpr (by unfold bl; omega))] | rw [zbo_f (fun q => by have := blB_iff.mp q; unfold bl at this; omega)])
      · refine z_iconst (v := nI 1) (by decide) (pc' := 29) 16 rfl rfl ?_
        refine z_goto 17 rfl (tgt := 33) rfl ?_
        exact z_ireturn 19 rfl rfl (by first | rfl | exact zbo_nar) rfl rfl (by refine ⟨?_, rfl⟩; first | rw [zbo_t (blB_iff.mpr (by unfold bl; omega))] | rw [zbo_f (fun q => by have := blB_iff.mp q; unfold bl at this; omega)])
set_option maxHeartbeats 4000000 in
set_option maxRecDepth 100000 in
theorem c_Co_gainBy {G : zG} {n u : Nat} {μ : Nat → va_E} {S : Nat → Nat → Nat} {sc ch : Int32} (hco : isCo μ S sc ch) (hi : iS S) {g w t : Nat} (hg : g < 6) (hw : w < 6) (ht : t ≤ 16) : zMet G 1 M_Co_gainBy [.ref 5, .int (nI g), .int (nI w), .int (nI t)] n u μ n u (zE (some (.int (nI (gS S g w t)))) μ) := by
  refine z_start (lv := [.ref 5, .int (nI g), .int (nI w), .int (nI t)]) K_Co_gainBy rfl rfl (Nat.le_refl _) (Nat.le_refl _) (Nat.le_of_ble_eq_true rfl) rfl ?_
  obtain ⟨m5, m6, m7, m8, m9, m10, m11, m12, m22⟩ := hco
  have hw9 := hi.2.2.2.2.2 w
  have hg9 := hi.2.2.2.2.2 g
  refine z_al0 (pc' := 1) 0 rfl rfl ?_
  refine z_getf (pc' := 4) 1 rfl rfl f_Co_9_3 (by assumption) (by rfl) ?_
  refine z_il1 (pc' := 5) 2 rfl rfl ?_
  refine z_iald (pc' := 6) 3 rfl rfl (by assumption) (by omega) (by decide) ?_
  refine z_al0 (pc' := 7) 4 rfl rfl ?_
  refine z_getf (pc' := 10) 5 rfl rfl f_Co_24_3 (by assumption) (by rfl) ?_
  refine z_il2 (pc' := 11) 6 rfl rfl ?_
  refine z_iald (pc' := 12) 7 rfl rfl (by assumption) (by omega) (by decide) ?_
  refine z_al0 (pc' := 13) 8 rfl rfl ?_
  refine z_getf (pc' := 16) 9 rfl rfl f_Co_21_3 (by assumption) (by rfl) ?_
  refine z_il2 (pc' := 17) 10 rfl rfl ?_
  refine z_iald (pc' := 18) 11 rfl rfl (by assumption) (by omega) (by decide) ?_
  refine z_al0 (pc' := 19) 12 rfl rfl ?_
  refine z_getf (pc' := 22) 13 rfl rfl f_Co_15_3 (by assumption) (by rfl) ?_
  refine z_il1 (pc' := 23) 14 rfl rfl ?_
  refine z_iald (pc' := 24) 15 rfl rfl (by assumption) (by omega) (by decide) ?_
  refine z_callS1 (pc' := 27) 16 rfl rfl k_Co_92 (c_Wb_turnBetween (by omega) (by omega)) (by decide) (Nat.le_refl _) (Nat.le_refl _) rfl rfl (Nat.le_of_ble_eq_true rfl) ?_
  refine z_il3 (pc' := 28) 17 rfl rfl ?_
  refine z_callS1 (pc' := 31) 18 rfl rfl k_Co_96 (c_Wb_gainOf (by omega) (by omega) (tn_le (by omega) (by omega)) (by omega)) (by decide) (Nat.le_refl _) (Nat.le_refl _) rfl rfl (Nat.le_of_ble_eq_true rfl) ?_
  exact z_ireturn 19 rfl rfl (by first | rfl | exact zbo_nar) rfl rfl (by exact ⟨rfl, rfl⟩)
