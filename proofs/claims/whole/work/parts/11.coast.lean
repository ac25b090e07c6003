/-! ===== the coast (cell 5): S 0: girls, winds, reports, end; S 1 kind, 2 house, 3 dowry, 4 point, 5 force, 6 from, 7 to, 8 reports' numbers ===== -/
def isCo (μ : Nat → va_E) (S : Nat → Nat → Nat) (sc ch : Int32) : Prop :=
  μ 5 = .inr (3, [.int (nI (S 0 0)), .ref 6, .ref 7, .ref 8, .int (nI (S 0 1)), .ref 9, .ref 10, .ref 11, .ref 12, .int (nI (S 0 3)), .int sc, .int ch, .ref 13, .ref 17, .int (nI (S 0 2)), .ref 22, .ref 23]) ∧
  μ 6 = .inl (0, 6, .inl (zn (S 1))) ∧ μ 7 = .inl (0, 6, .inl (zn (S 2))) ∧ μ 8 = .inl (0, 6, .inl (zn (S 3))) ∧ μ 9 = .inl (0, 6, .inl (zn (S 4))) ∧ μ 10 = .inl (0, 6, .inl (zn (S 5))) ∧ μ 11 = .inl (0, 6, .inl (zn (S 6))) ∧ μ 12 = .inl (0, 6, .inl (zn (S 7))) ∧ μ 22 = .inl (0, 24, .inl (zn (S 8)))
/-- the bounds that always hold -/
def iS (S : Nat → Nat → Nat) : Prop := S 0 0 ≤ 6 ∧ S 0 1 ≤ 6 ∧ S 0 2 ≤ 6 ∧ 1 ≤ S 0 3 ∧ S 0 3 ≤ 16 ∧ ∀ j, S 1 j ≤ 5 ∧ S 2 j ≤ 7 ∧ S 3 j ≤ 9 ∧ S 4 j ≤ 7 ∧ S 5 j ≤ 9 ∧ S 6 j ≤ 15 ∧ S 7 j ≤ 15 ∧ S 8 j ≤ 99 ∧ (j < S 0 0 → 1 ≤ S 3 j)
/-- a wind blows in a month -/
def bl (S : Nat → Nat → Nat) (w t : Nat) : Prop := w < S 0 1 ∧ S 6 w ≤ t ∧ t ≤ S 7 w
def bl_dec (S : Nat → Nat → Nat) (w t : Nat) : Decidable (bl S w t) := inferInstanceAs (Decidable (w < S 0 1 ∧ S 6 w ≤ t ∧ t ≤ S 7 w))
def blB (S : Nat → Nat → Nat) (w t : Nat) : Bool := decide (w < S 0 1) && (decide (S 6 w ≤ t) && decide (t ≤ S 7 w))
theorem blB_iff {S : Nat → Nat → Nat} {w t : Nat} : blB S w t = true ↔ bl S w t := by simp [blB, bl]
/-- what a girl gains by a wind in a month -/
def gS (S : Nat → Nat → Nat) (g w t : Nat) : Nat := gn (S 1 g) (S 5 w) (tn (S 4 w) (S 2 g)) t
theorem gS_le {S : Nat → Nat → Nat} (hi : iS S) {g w t : Nat} : gS S g w t ≤ 18 := gn_le (hi.2.2.2.2.2 w).2.2.2.2.1
def udB (k a : Nat) : Bool := decide (zLin.getD k 0 >>> (nI a &&& 31) &&& nI 1 ≠ 0)
theorem udB_eq : ∀ k, k ≤ 5 → ∀ a, a ≤ 5 → (udB k a = true ↔ (a = 0 ∨ k = a ∨ (a = 2 ∧ k = 3) ∨ (a = 4 ∧ k = 5))) := by decide +kernel
set_option maxHeartbeats 4000000 in
set_option maxRecDepth 100000 in
theorem c_Wb_isUnder {G : zG} {n u : Nat} {μ : Nat → va_E} {k a : Nat} (hk : k ≤ 5) (ha : a ≤ 31) : zMet G 0 M_Wb_isUnder [.int (nI k), .int (nI a)] n u μ n u (zE (some (.int (zbo (udB k a = true)))) μ) := by
  refine z_start K_Wb_isUnder rfl rfl (Nat.le_refl _) (Nat.le_refl _) (Nat.le_of_ble_eq_true rfl) rfl ?_
  refine z_spec (fun hs => ?_)
  have m0 := hs 0 (by decide)
  refine z_getsL 0 rfl rfl g_Wb_69 ?_
  refine z_il0 1 rfl rfl ?_
  refine z_iald7 2 rfl rfl (by decide) (by exact m0) (by omega) (by decide) ?_
  refine z_il1 3 rfl rfl ?_
  refine z_ishr 4 rfl rfl ?_
  refine z_iconst (v := nI 1) (by decide) 5 rfl rfl ?_
  refine z_iand 6 rfl rfl ?_
  first | refine z_if_eqB 7 rfl rfl (tgt := 16) rfl (fun h9 => ?_) (fun h9 => ?_) | refine z_if_eqN 7 rfl rfl (tgt := 16) rfl (by omega) (fun h9 => ?_) (fun h9 => ?_) | refine z_if_eq 7 rfl rfl (tgt := 16) rfl (fun h9 => ?_) (fun h9 => ?_)
  · refine z_iconst (v := nI 0) (by decide) 10 rfl rfl ?_
    exact z_ireturn 11 rfl rfl (by first | rfl | exact zbo_nar) rfl rfl (by refine ⟨?_, rfl⟩; first | rw [zbo_t (by simp only [udB]; simp only [zspec] at *; simpa using h9)] | rw [zbo_f (by simp only [udB]; simpa using h9)])
  · refine z_iconst (v := nI 1) (by decide) 8 rfl rfl ?_
    refine z_goto 9 rfl (tgt := 17) rfl ?_
    exact z_ireturn 11 rfl rfl (by first | rfl | exact zbo_nar) rfl rfl (by refine ⟨?_, rfl⟩; first | rw [zbo_t (by simp only [udB]; simp only [zspec] at *; simpa using h9)] | rw [zbo_f (by simp only [udB]; simpa using h9)])
set_option maxHeartbeats 4000000 in
set_option maxRecDepth 100000 in
theorem c_Co_hasGirl {G : zG} {n u : Nat} {μ : Nat → va_E} {S : Nat → Nat → Nat} {sc ch : Int32} (hco : isCo μ S sc ch) (hi : iS S) (x : Int32) : zMet G 0 M_Co_hasGirl [.ref 5, .int x] n u μ n u (zE (some (.int (zbo (0 ≤ x ∧ x < nI (S 0 0))))) μ) := by
  refine z_start K_Co_hasGirl rfl rfl (Nat.le_refl _) (Nat.le_refl _) (Nat.le_of_ble_eq_true rfl) rfl ?_
  obtain ⟨m5, m6, m7, m8, m9, m10, m11, m12, m22⟩ := hco
  refine z_il1 0 rfl rfl ?_
  first | refine z_if_ltN 1 rfl rfl (tgt := 16) rfl (by omega) (fun h1 => ?_) (fun h1 => ?_) | refine z_if_lt 1 rfl rfl (tgt := 16) rfl (fun h1 => ?_) (fun h1 => ?_)
  · refine z_iconst (v := nI 0) (by decide) 8 rfl rfl ?_
    exact z_ireturn 9 rfl rfl (by first | rfl | exact zbo_nar) rfl rfl (by refine ⟨?_, rfl⟩; first | rw [zbo_t (by simp only [Int32.lt_iff_toInt_lt, Int32.le_iff_toInt_le, not_and, Classical.not_not] at *; omega)] | rw [zbo_f (by simp only [Int32.lt_iff_toInt_lt, Int32.le_iff_toInt_le, not_and, Classical.not_not] at *; omega)])
  · refine z_il1 2 rfl rfl ?_
    refine z_al0 3 rfl rfl ?_
    refine z_getf 4 rfl rfl f_Co_60_3 (by assumption) (by rfl) ?_
    first | refine z_icmp_geN 5 rfl rfl (tgt := 16) rfl (by omega) (by omega) (fun h9 => ?_) (fun h9 => ?_) | refine z_icmp_ge 5 rfl rfl (tgt := 16) rfl (fun h9 => ?_) (fun h9 => ?_)
    · refine z_iconst (v := nI 0) (by decide) 8 rfl rfl ?_
      exact z_ireturn 9 rfl rfl (by first | rfl | exact zbo_nar) rfl rfl (by refine ⟨?_, rfl⟩; first | rw [zbo_t (by simp only [Int32.lt_iff_toInt_lt, Int32.le_iff_toInt_le, not_and, Classical.not_not] at *; omega)] | rw [zbo_f (by simp only [Int32.lt_iff_toInt_lt, Int32.le_iff_toInt_le, not_and, Classical.not_not] at *; omega)])
    · refine z_iconst (v := nI 1) (by decide) 6 rfl rfl ?_
      refine z_goto 7 rfl (tgt := 17) rfl ?_
      exact z_ireturn 9 rfl rfl (by first | rfl | exact zbo_nar) rfl rfl (by refine ⟨?_, rfl⟩; first | rw [zbo_t (by simp only [Int32.lt_iff_toInt_lt, Int32.le_iff_toInt_le, not_and, Classical.not_not] at *; omega)] | rw [zbo_f (by simp only [Int32.lt_iff_toInt_lt, Int32.le_iff_toInt_le, not_and, Classical.not_not] at *; omega)])
set_option maxHeartbeats 4000000 in
set_option maxRecDepth 100000 in
theorem c_Co_hasWind {G : zG} {n u : Nat} {μ : Nat → va_E} {S : Nat → Nat → Nat} {sc ch : Int32} (hco : isCo μ S sc ch) (hi : iS S) (x : Int32) : zMet G 0 M_Co_hasWind [.ref 5, .int x] n u μ n u (zE (some (.int (zbo (0 ≤ x ∧ x < nI (S 0 1))))) μ) := by
  refine z_start K_Co_hasWind rfl rfl (Nat.le_refl _) (Nat.le_refl _) (Nat.le_of_ble_eq_true rfl) rfl ?_
  obtain ⟨m5, m6, m7, m8, m9, m10, m11, m12, m22⟩ := hco
  refine z_il1 0 rfl rfl ?_
  first | refine z_if_ltN 1 rfl rfl (tgt := 16) rfl (by omega) (fun h1 => ?_) (fun h1 => ?_) | refine z_if_lt 1 rfl rfl (tgt := 16) rfl (fun h1 => ?_) (fun h1 => ?_)
  · refine z_iconst (v := nI 0) (by decide) 8 rfl rfl ?_
    exact z_ireturn 9 rfl rfl (by first | rfl | exact zbo_nar) rfl rfl (by refine ⟨?_, rfl⟩; first | rw [zbo_t (by simp only [Int32.lt_iff_toInt_lt, Int32.le_iff_toInt_le, not_and, Classical.not_not] at *; omega)] | rw [zbo_f (by simp only [Int32.lt_iff_toInt_lt, Int32.le_iff_toInt_le, not_and, Classical.not_not] at *; omega)])
  · refine z_il1 2 rfl rfl ?_
    refine z_al0 3 rfl rfl ?_
    refine z_getf 4 rfl rfl f_Co_69_3 (by assumption) (by rfl) ?_
    first | refine z_icmp_geN 5 rfl rfl (tgt := 16) rfl (by omega) (by omega) (fun h9 => ?_) (fun h9 => ?_) | refine z_icmp_ge 5 rfl rfl (tgt := 16) rfl (fun h9 => ?_) (fun h9 => ?_)
    · refine z_iconst (v := nI 0) (by decide) 8 rfl rfl ?_
      exact z_ireturn 9 rfl rfl (by first | rfl | exact zbo_nar) rfl rfl (by refine ⟨?_, rfl⟩; first | rw [zbo_t (by simp only [Int32.lt_iff_toInt_lt, Int32.le_iff_toInt_le, not_and, Classical.not_not] at *; omega)] | rw [zbo_f (by simp only [Int32.lt_iff_toInt_lt, Int32.le_iff_toInt_le, not_and, Classical.not_not] at *; omega)])
    · refine z_iconst (v := nI 1) (by decide) 6 rfl rfl ?_
      refine z_goto 7 rfl (tgt := 17) rfl ?_
      exact z_ireturn 9 rfl rfl (by first | rfl | exact zbo_nar) rfl rfl (by refine ⟨?_, rfl⟩; first | rw [zbo_t (by simp only [Int32.lt_iff_toInt_lt, Int32.le_iff_toInt_le, not_and, Classical.not_not] at *; omega)] | rw [zbo_f (by simp only [Int32.lt_iff_toInt_lt, Int32.le_iff_toInt_le, not_and, Classical.not_not] at *; omega)])
set_option maxHeartbeats 4000000 in
set_option maxRecDepth 100000 in
theorem c_Co_isAct {G : zG} {n u : Nat} {μ : Nat → va_E} {S : Nat → Nat → Nat} {sc ch : Int32} (hco : isCo μ S sc ch) (hi : iS S) (x : Int32) : zMet G 0 M_Co_isAct [.ref 5, .int x] n u μ n u (zE (some (.int (zbo (0 ≤ x ∧ x ≤ nI (S 0 0))))) μ) := by
  refine z_start K_Co_isAct rfl rfl (Nat.le_refl _) (Nat.le_refl _) (Nat.le_of_ble_eq_true rfl) rfl ?_
  obtain ⟨m5, m6, m7, m8, m9, m10, m11, m12, m22⟩ := hco
  refine z_il1 0 rfl rfl ?_
  first | refine z_if_ltN 1 rfl rfl (tgt := 16) rfl (by omega) (fun h1 => ?_) (fun h1 => ?_) | refine z_if_lt 1 rfl rfl (tgt := 16) rfl (fun h1 => ?_) (fun h1 => ?_)
  · refine z_iconst (v := nI 0) (by decide) 8 rfl rfl ?_
    exact z_ireturn 9 rfl rfl (by first | rfl | exact zbo_nar) rfl rfl (by refine ⟨?_, rfl⟩; first | rw [zbo_t (by simp only [Int32.lt_iff_toInt_lt, Int32.le_iff_toInt_le, not_and, Classical.not_not] at *; omega)] | rw [zbo_f (by simp only [Int32.lt_iff_toInt_lt, Int32.le_iff_toInt_le, not_and, Classical.not_not] at *; omega)])
  · refine z_il1 2 rfl rfl ?_
    refine z_al0 3 rfl rfl ?_
    refine z_getf 4 rfl rfl f_Co_60_3 (by assumption) (by rfl) ?_
    first | refine z_icmp_gtN 5 rfl rfl (tgt := 16) rfl (by omega) (by omega) (fun h9 => ?_) (fun h9 => ?_) | refine z_icmp_gt 5 rfl rfl (tgt := 16) rfl (fun h9 => ?_) (fun h9 => ?_)
    · refine z_iconst (v := nI 0) (by decide) 8 rfl rfl ?_
      exact z_ireturn 9 rfl rfl (by first | rfl | exact zbo_nar) rfl rfl (by refine ⟨?_, rfl⟩; first | rw [zbo_t (by simp only [Int32.lt_iff_toInt_lt, Int32.le_iff_toInt_le, not_and, Classical.not_not] at *; omega)] | rw [zbo_f (by simp only [Int32.lt_iff_toInt_lt, Int32.le_iff_toInt_le, not_and, Classical.not_not] at *; omega)])
    · refine z_iconst (v := nI 1) (by decide) 6 rfl rfl ?_
      refine z_goto 7 rfl (tgt := 17) rfl ?_
      exact z_ireturn 9 rfl rfl (by first | rfl | exact zbo_nar) rfl rfl (by refine ⟨?_, rfl⟩; first | rw [zbo_t (by simp only [Int32.lt_iff_toInt_lt, Int32.le_iff_toInt_le, not_and, Classical.not_not] at *; omega)] | rw [zbo_f (by simp only [Int32.lt_iff_toInt_lt, Int32.le_iff_toInt_le, not_and, Classical.not_not] at *; omega)])
set_option maxHeartbeats 4000000 in
set_option maxRecDepth 100000 in
theorem c_Co_blows {G : zG} {n u : Nat} {μ : Nat → va_E} {S : Nat → Nat → Nat} {sc ch : Int32} (hco : isCo μ S sc ch) (hi : iS S) {w t : Nat} (hw : w < 2 ^ 31) (ht : t < 2 ^ 31) : zMet G 0 M_Co_blows [.ref 5, .int (nI w), .int (nI t)] n u μ n u (zE (some (.int (zbo (blB S w t = true)))) μ) := by
  refine z_start K_Co_blows rfl rfl (Nat.le_refl _) (Nat.le_refl _) (Nat.le_of_ble_eq_true rfl) rfl ?_
  obtain ⟨m5, m6, m7, m8, m9, m10, m11, m12, m22⟩ := hco
  have hw9 := hi.2.2.2.2.2 w
  have hi6 : S 0 1 ≤ 6 := hi.2.1
  refine z_il1 0 rfl rfl ?_
  refine z_al0 1 rfl rfl ?_
  refine z_getf 2 rfl rfl f_Co_69_3 (by assumption) (by rfl) ?_
  first | refine z_icmp_geN 3 rfl rfl (tgt := 32) rfl (by omega) (by omega) (fun h5 => ?_) (fun h5 => ?_) | refine z_icmp_ge 3 rfl rfl (tgt := 32) rfl (fun h5 => ?_) (fun h5 => ?_)
  · refine z_iconst (v := nI 0) (by decide) 18 rfl rfl ?_
    exact z_ireturn 19 rfl rfl (by first | rfl | exact zbo_nar) rfl rfl (by refine ⟨?_, rfl⟩; first | rw [zbo_t (blB_iff.mpr (by unfold bl; omega))] | rw [zbo_f (fun q => by have := blB_iff.mp q; unfold bl at this; omega)])
  · refine z_al0 4 rfl rfl ?_
    refine z_getf 5 rfl rfl f_Co_27_3 (by assumption) (by rfl) ?_
    refine z_il1 6 rfl rfl ?_
    refine z_iald 7 rfl rfl (by assumption) (by omega) (by decide) ?_
    refine z_il2 8 rfl rfl ?_
    first | refine z_icmp_gtN 9 rfl rfl (tgt := 32) rfl (by omega) (by omega) (fun h15 => ?_) (fun h15 => ?_) | refine z_icmp_gt 9 rfl rfl (tgt := 32) rfl (fun h15 => ?_) (fun h15 => ?_)
    · refine z_iconst (v := nI 0) (by decide) 18 rfl rfl ?_
      exact z_ireturn 19 rfl rfl (by first | rfl | exact zbo_nar) rfl rfl (by refine ⟨?_, rfl⟩; first | rw [zbo_t (blB_iff.mpr (by unfold bl; omega))] | rw [zbo_f (fun q => by have := blB_iff.mp q; unfold bl at this; omega)])
    · refine z_il2 10 rfl rfl ?_
      refine z_al0 11 rfl rfl ?_
      refine z_getf 12 rfl rfl f_Co_30_3 (by assumption) (by rfl) ?_
      refine z_il1 13 rfl rfl ?_
      refine z_iald 14 rfl rfl (by assumption) (by omega) (by decide) ?_
      first | refine z_icmp_gtN 15 rfl rfl (tgt := 32) rfl (by omega) (by omega) (fun h25 => ?_) (fun h25 => ?_) | refine z_icmp_gt 15 rfl rfl (tgt := 32) rfl (fun h25 => ?_) (fun h25 => ?_)
      · refine z_iconst (v := nI 0) (by decide) 18 rfl rfl ?_
        exact z_ireturn 19 rfl rfl (by first | rfl | exact zbo_nar) rfl rfl (by refine ⟨?_, rfl⟩; first | rw [zbo_t (blB_iff.mpr (by unfold bl; omega))] | rw [zbo_f (fun q => by have := blB_iff.mp q; unfold bl at this; omega)])
      · refine z_iconst (v := nI 1) (by decide) 16 rfl rfl ?_
        refine z_goto 17 rfl (tgt := 33) rfl ?_
        exact z_ireturn 19 rfl rfl (by first | rfl | exact zbo_nar) rfl rfl (by refine ⟨?_, rfl⟩; first | rw [zbo_t (blB_iff.mpr (by unfold bl; omega))] | rw [zbo_f (fun q => by have := blB_iff.mp q; unfold bl at this; omega)])
set_option maxHeartbeats 4000000 in
set_option maxRecDepth 100000 in
theorem c_Co_gainBy {G : zG} {n u : Nat} {μ : Nat → va_E} {S : Nat → Nat → Nat} {sc ch : Int32} (hco : isCo μ S sc ch) (hi : iS S) {g w t : Nat} (hg : g < 6) (hw : w < 6) (ht : t ≤ 16) : zMet G 1 M_Co_gainBy [.ref 5, .int (nI g), .int (nI w), .int (nI t)] n u μ n u (zE (some (.int (nI (gS S g w t)))) μ) := by
  refine z_start K_Co_gainBy rfl rfl (Nat.le_refl _) (Nat.le_refl _) (Nat.le_of_ble_eq_true rfl) rfl ?_
  obtain ⟨m5, m6, m7, m8, m9, m10, m11, m12, m22⟩ := hco
  have hw9 := hi.2.2.2.2.2 w
  have hg9 := hi.2.2.2.2.2 g
  refine z_al0 0 rfl rfl ?_
  refine z_getf 1 rfl rfl f_Co_9_3 (by assumption) (by rfl) ?_
  refine z_il1 2 rfl rfl ?_
  refine z_iald 3 rfl rfl (by assumption) (by omega) (by decide) ?_
  refine z_al0 4 rfl rfl ?_
  refine z_getf 5 rfl rfl f_Co_24_3 (by assumption) (by rfl) ?_
  refine z_il2 6 rfl rfl ?_
  refine z_iald 7 rfl rfl (by assumption) (by omega) (by decide) ?_
  refine z_al0 8 rfl rfl ?_
  refine z_getf 9 rfl rfl f_Co_21_3 (by assumption) (by rfl) ?_
  refine z_il2 10 rfl rfl ?_
  refine z_iald 11 rfl rfl (by assumption) (by omega) (by decide) ?_
  refine z_al0 12 rfl rfl ?_
  refine z_getf 13 rfl rfl f_Co_15_3 (by assumption) (by rfl) ?_
  refine z_il1 14 rfl rfl ?_
  refine z_iald 15 rfl rfl (by assumption) (by omega) (by decide) ?_
  refine z_callS1 16 rfl rfl k_Co_92 (c_Wb_turnBetween (by omega) (by omega)) (by decide) (Nat.le_refl _) (Nat.le_refl _) rfl rfl (Nat.le_of_ble_eq_true rfl) ?_
  refine z_il3 17 rfl rfl ?_
  refine z_callS1 18 rfl rfl k_Co_96 (c_Wb_gainOf (by omega) (by omega) (tn_le (by omega) (by omega)) (by omega)) (by decide) (Nat.le_refl _) (Nat.le_refl _) rfl rfl (Nat.le_of_ble_eq_true rfl) ?_
  exact z_ireturn 19 rfl rfl (by first | rfl | exact zbo_nar) rfl rfl (by exact ⟨rfl, rfl⟩)
