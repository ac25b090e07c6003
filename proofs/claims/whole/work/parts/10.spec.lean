/-! ===== plain numbers: bits ===== -/
theorem nb_and (a b : Nat) : nI a &&& nI b = nI (a &&& b) := by
  apply Int32.toBitVec_inj.1
  show BitVec.ofNat 32 a &&& BitVec.ofNat 32 b = BitVec.ofNat 32 (a &&& b)
  apply BitVec.eq_of_getLsbD_eq
  intro i hi
  simp [hi]
theorem nb_or (a b : Nat) : nI a ||| nI b = nI (a ||| b) := by
  apply Int32.toBitVec_inj.1
  show BitVec.ofNat 32 a ||| BitVec.ofNat 32 b = BitVec.ofNat 32 (a ||| b)
  apply BitVec.eq_of_getLsbD_eq
  intro i hi
  simp [hi]
theorem nb_xor (a b : Nat) : nI a ^^^ nI b = nI (a ^^^ b) := by
  apply Int32.toBitVec_inj.1
  show BitVec.ofNat 32 a ^^^ BitVec.ofNat 32 b = BitVec.ofNat 32 (a ^^^ b)
  apply BitVec.eq_of_getLsbD_eq
  intro i hi
  simp [hi]
theorem nb_sl : ∀ k, k < 32 → ((nI k &&& 31).toBitVec.smod 32).toNat = k := by decide +kernel
theorem nb_shl {a k : Nat} (hk : k < 32) (h : a * 2 ^ k < 2 ^ 32) : nI a <<< (nI k &&& 31) = nI (a * 2 ^ k) := pk_shlN _ k (nb_sl k hk) h
theorem nb_shl1 {k : Nat} (hk : k < 31) : nI 1 <<< (nI k &&& 31) = nI (2 ^ k) := by
  have h2 : (2 : Nat) ^ k < 2 ^ 31 := Nat.pow_lt_pow_right (by decide) hk
  rw [nb_shl (by omega) (by omega), Nat.one_mul]
theorem nb_shr {a k : Nat} (ha : a < 2 ^ 31) (hk : k < 32) : nI a >>> (nI k &&& 31) = nI (a / 2 ^ k) := pk_shrN ha _ k (nb_sl k hk)
theorem nb_bit {a k : Nat} (ha : a < 2 ^ 31) (hk : k < 32) : nI a >>> (nI k &&& 31) &&& nI 1 = nI (a / 2 ^ k % 2) := by
  rw [nb_shr ha hk, nb_and, Nat.and_one_is_mod]
/-! ===== what a wind's turn is, what a girl gains ===== -/
def tn (p h : Nat) : Nat := if 8 - (if h < p then p - h else h - p) < (if h < p then p - h else h - p) then 8 - (if h < p then p - h else h - p) else (if h < p then p - h else h - p)
def gn (k f t m : Nat) : Nat := match k with
  | 1 => (f - t) / 2
  | 2 => f - t / 2
  | 3 => f - t / 2 + 1
  | 4 => if m < 3 then 0 else f - t
  | 5 => (if m < 3 then 0 else f - t) + 9 - f
  | _ => f - t
theorem tn_le {p h : Nat} : p ≤ 7 → h ≤ 7 → tn p h ≤ 4 := by
  intro h1 h2
  unfold tn
  split <;> split at * <;> omega
theorem gn_le {k f t m : Nat} (hf : f ≤ 9) : gn k f t m ≤ 18 := by
  unfold gn
  split <;> (try split) <;> omega
/-- kinds: one and those above it -/
def ud (k a : Nat) : Prop := a = 0 ∨ k = a ∨ (a = 2 ∧ k = 3) ∨ (a = 4 ∧ k = 5)
set_option maxHeartbeats 4000000 in
set_option maxRecDepth 100000 in
theorem c_Wb_within {G : zG} {n u : Nat} {μ : Nat → va_E} (x a b : Int32) : zMet G 0 M_Wb_within [.int x, .int a, .int b] n u μ n u (zE (some (.int (zbo (a ≤ x ∧ x ≤ b)))) μ) := by
  refine z_start (lv := [.int x, .int a, .int b]) K_Wb_within rfl rfl (Nat.le_refl _) (Nat.le_refl _) (Nat.le_of_ble_eq_true rfl) rfl ?_
  refine z_il0 (pc' := 1) 0 rfl rfl ?_
  refine z_il1 (pc' := 2) 1 rfl rfl ?_
  first | refine z_icmp_ltN (pc' := 5) 2 rfl rfl (tgt := 14) rfl (by omega) (by omega) (fun h2 => ?_) (fun h2 => ?_) | refine z_icmp_lt (pc' := 5) 2 rfl rfl (tgt := 14) rfl (fun h2 => ?_) (fun h2 => ?_)
  · refine z_iconst (v := nI 0) (by decide) (pc' := 15) 8 rfl rfl ?_
    exact z_ireturn 9 rfl rfl (by first | rfl | exact zbo_nar) rfl rfl (by refine ⟨?_, rfl⟩; first | rw [zbo_t (by simp only [Int32.lt_iff_toInt_lt, Int32.le_iff_toInt_le, not_and, Classical.not_not] at *; omega)] | rw [zbo_f (by simp only [Int32.lt_iff_toInt_lt, Int32.le_iff_toInt_le, not_and, Classical.not_not] at *; omega)])
  · refine z_il0 (pc' := 6) 3 rfl rfl ?_
    refine z_il2 (pc' := 7) 4 rfl rfl ?_
    first | refine z_icmp_gtN (pc' := 10) 5 rfl rfl (tgt := 14) rfl (by omega) (by omega) (fun h7 => ?_) (fun h7 => ?_) | refine z_icmp_gt (pc' := 10) 5 rfl rfl (tgt := 14) rfl (fun h7 => ?_) (fun h7 => ?_)
    · refine z_iconst (v := nI 0) (by decide) (pc' := 15) 8 rfl rfl ?_
      exact z_ireturn 9 rfl rfl (by first | rfl | exact zbo_nar) rfl rfl (by refine ⟨?_, rfl⟩; first | rw [zbo_t (by simp only [Int32.lt_iff_toInt_lt, Int32.le_iff_toInt_le, not_and, Classical.not_not] at *; omega)] | rw [zbo_f (by simp only [Int32.lt_iff_toInt_lt, Int32.le_iff_toInt_le, not_and, Classical.not_not] at *; omega)])
    · refine z_iconst (v := nI 1) (by decide) (pc' := 11) 6 rfl rfl ?_
      refine z_goto 7 rfl (tgt := 15) rfl ?_
      exact z_ireturn 9 rfl rfl (by first | rfl | exact zbo_nar) rfl rfl (by refine ⟨?_, rfl⟩; first | rw [zbo_t (by simp only [Int32.lt_iff_toInt_lt, Int32.le_iff_toInt_le, not_and, Classical.not_not] at *; omega)] | rw [zbo_f (by simp only [Int32.lt_iff_toInt_lt, Int32.le_iff_toInt_le, not_and, Classical.not_not] at *; omega)])
set_option maxHeartbeats 4000000 in
set_option maxRecDepth 100000 in
theorem c_Wb_turnBetween {G : zG} {n u : Nat} {μ : Nat → va_E} {p h : Nat} (hp : p ≤ 7) (hh : h ≤ 7) : zMet G 0 M_Wb_turnBetween [.int (nI p), .int (nI h)] n u μ n u (zE (some (.int (nI (tn p h)))) μ) := by
  refine z_start (lv := [.int (nI p), .int (nI h), .retAddr 0]) K_Wb_turnBetween rfl rfl (Nat.le_refl _) (Nat.le_refl _) (Nat.le_of_ble_eq_true rfl) rfl ?_
  refine z_il0 (pc' := 1) 0 rfl rfl ?_
  refine z_il1 (pc' := 2) 1 rfl rfl ?_
  first | refine z_icmp_leN (pc' := 5) 2 rfl rfl (tgt := 11) rfl (by omega) (by omega) (fun h2 => ?_) (fun h2 => ?_) | refine z_icmp_le (pc' := 5) 2 rfl rfl (tgt := 11) rfl (fun h2 => ?_) (fun h2 => ?_)
  · refine z_il1 (pc' := 12) 7 rfl rfl ?_
    refine z_il0 (pc' := 13) 8 rfl rfl ?_
    first | refine z_isubN (by omega) (pc' := 14) 9 rfl rfl ?_ | refine z_isub (pc' := 14) 9 rfl rfl ?_
    refine z_is2 rfl rfl (pc' := 15) 10 rfl rfl ?_
    refine z_il2 (pc' := 16) 11 rfl rfl ?_
    refine z_bipush (v := nI 8) (by decide) (pc' := 18) 12 rfl rfl ?_
    refine z_il2 (pc' := 19) 13 rfl rfl ?_
    first | refine z_isubN (by omega) (pc' := 20) 14 rfl rfl ?_ | refine z_isub (pc' := 20) 14 rfl rfl ?_
    first | refine z_icmp_leN (pc' := 23) 15 rfl rfl (tgt := 30) rfl (by omega) (by omega) (fun h20 => ?_) (fun h20 => ?_) | refine z_icmp_le (pc' := 23) 15 rfl rfl (tgt := 30) rfl (fun h20 => ?_) (fun h20 => ?_)
    · refine z_il2 (pc' := 31) 20 rfl rfl ?_
      exact z_ireturn 21 rfl rfl (by first | rfl | exact zbo_nar) rfl rfl (by refine ⟨?_, rfl⟩; congr 3; unfold tn; first | (rw [if_pos (by omega), if_pos (by omega)]; done) | (rw [if_pos (show h < p by omega)]; first | rw [if_pos (by omega)] | rw [if_neg (by omega)]) | (rw [if_neg (show ¬ h < p by omega)]; first | rw [if_pos (by omega)] | rw [if_neg (by omega)]))
    · refine z_bipush (v := nI 8) (by decide) (pc' := 25) 16 rfl rfl ?_
      refine z_il2 (pc' := 26) 17 rfl rfl ?_
      first | refine z_isubN (by omega) (pc' := 27) 18 rfl rfl ?_ | refine z_isub (pc' := 27) 18 rfl rfl ?_
      refine z_goto 19 rfl (tgt := 31) rfl ?_
      exact z_ireturn 21 rfl rfl (by first | rfl | exact zbo_nar) rfl rfl (by refine ⟨?_, rfl⟩; congr 3; unfold tn; first | (rw [if_pos (by omega), if_pos (by omega)]; done) | (rw [if_pos (show h < p by omega)]; first | rw [if_pos (by omega)] | rw [if_neg (by omega)]) | (rw [if_neg (show ¬ h < p by omega)]; first | rw [if_pos (by omega)] | rw [if_neg (by omega)]))
  · refine z_il0 (pc' := 6) 3 rfl rfl ?_
    refine z_il1 (pc' := 7) 4 rfl rfl ?_
    first | refine z_isubN (by omega) (pc' := 8) 5 rfl rfl ?_ | refine z_isub (pc' := 8) 5 rfl rfl ?_
    refine z_goto 6 rfl (tgt := 14) rfl ?_
    refine z_is2 rfl rfl (pc' := 15) 10 rfl rfl ?_
    refine z_il2 (pc' := 16) 11 rfl rfl ?_
    refine z_bipush (v := nI 8) (by decide) (pc' := 18) 12 rfl rfl ?_
    refine z_il2 (pc' := 19) 13 rfl rfl ?_
    first | refine z_isubN (by omega) (pc' := 20) 14 rfl rfl ?_ | refine z_isub (pc' := 20) 14 rfl rfl ?_
    first | refine z_icmp_leN (pc' := 23) 15 rfl rfl (tgt := 30) rfl (by omega) (by omega) (fun h20 => ?_) (fun h20 => ?_) | refine z_icmp_le (pc' := 23) 15 rfl rfl (tgt := 30) rfl (fun h20 => ?_) (fun h20 => ?_)
    · refine z_il2 (pc' := 31) 20 rfl rfl ?_
      exact z_ireturn 21 rfl rfl (by first | rfl | exact zbo_nar) rfl rfl (by refine ⟨?_, rfl⟩; congr 3; unfold tn; first | (rw [if_pos (by omega), if_pos (by omega)]; done) | (rw [if_pos (show h < p by omega)]; first | rw [if_pos (by omega)] | rw [if_neg (by omega)]) | (rw [if_neg (show ¬ h < p by omega)]; first | rw [if_pos (by omega)] | rw [if_neg (by omega)]))
    · refine z_bipush (v := nI 8) (by decide) (pc' := 25) 16 rfl rfl ?_
      refine z_il2 (pc' := 26) 17 rfl rfl ?_
      first | refine z_isubN (by omega) (pc' := 27) 18 rfl rfl ?_ | refine z_isub (pc' := 27) 18 rfl rfl ?_
      refine z_goto 19 rfl (tgt := 31) rfl ?_
      exact z_ireturn 21 rfl rfl (by first | rfl | exact zbo_nar) rfl rfl (by refine ⟨?_, rfl⟩; congr 3; unfold tn; first | (rw [if_pos (by omega), if_pos (by omega)]; done) | (rw [if_pos (show h < p by omega)]; first | rw [if_pos (by omega)] | rw [if_neg (by omega)]) | (rw [if_neg (show ¬ h < p by omega)]; first | rw [if_pos (by omega)] | rw [if_neg (by omega)]))
set_option maxHeartbeats 4000000 in
set_option maxRecDepth 100000 in
theorem c_Wb_gainOf {G : zG} {n u : Nat} {μ : Nat → va_E} {k f t m : Nat} (hk : k ≤ 5) (hf : f ≤ 9) (ht : t ≤ 4) (hm : m ≤ 16) : zMet G 0 M_Wb_gainOf [.int (nI k), .int (nI f), .int (nI t), .int (nI m)] n u μ n u (zE (some (.int (nI (gn k f t m)))) μ) := by
  refine z_start (lv := [.int (nI k), .int (nI f), .int (nI t), .int (nI m), .retAddr 0, .retAddr 0, .retAddr 0]) K_Wb_gainOf rfl rfl (Nat.le_refl _) (Nat.le_refl _) (Nat.le_of_ble_eq_true rfl) rfl ?_
  refine z_il1 (pc' := 1) 0 rfl rfl ?_
  refine z_il2 (pc' := 2) 1 rfl rfl ?_
  first | refine z_icmp_leN (pc' := 5) 2 rfl rfl (tgt := 11) rfl (by omega) (by omega) (fun h2 => ?_) (fun h2 => ?_) | refine z_icmp_le (pc' := 5) 2 rfl rfl (tgt := 11) rfl (fun h2 => ?_) (fun h2 => ?_)
  · refine z_iconst (v := nI 0) (by decide) (pc' := 12) 7 rfl rfl ?_
    refine z_is4 rfl rfl (pc' := 14) 8 rfl rfl ?_
    refine z_il1 (pc' := 15) 9 rfl rfl ?_
    refine z_il2 (pc' := 16) 10 rfl rfl ?_
    refine z_iconst (v := nI 2) (by decide) (pc' := 17) 11 rfl rfl ?_
    refine z_idiv (by decide) (pc' := 18) 12 rfl rfl ?_
    rw [zd2 t (by omega)]
    first | refine z_icmp_leN (pc' := 21) 13 rfl rfl (tgt := 29) rfl (by omega) (by omega) (fun h18 => ?_) (fun h18 => ?_) | refine z_icmp_le (pc' := 21) 13 rfl rfl (tgt := 29) rfl (fun h18 => ?_) (fun h18 => ?_)
    · refine z_iconst (v := nI 0) (by decide) (pc' := 30) 20 rfl rfl ?_
      refine z_is5 rfl rfl (pc' := 32) 21 rfl rfl ?_
      refine z_il3 (pc' := 33) 22 rfl rfl ?_
      refine z_iconst (v := nI 3) (by decide) (pc' := 34) 23 rfl rfl ?_
      first | refine z_icmp_geN (pc' := 37) 24 rfl rfl (tgt := 41) rfl (by omega) (by omega) (fun h34 => ?_) (fun h34 => ?_) | refine z_icmp_ge (pc' := 37) 24 rfl rfl (tgt := 41) rfl (fun h34 => ?_) (fun h34 => ?_)
      · refine z_il4 (pc' := 43) 27 rfl rfl ?_
        refine z_is6 rfl rfl (pc' := 45) 28 rfl rfl ?_
        refine z_il0 (pc' := 46) 29 rfl rfl ?_
        first | refine z_swN (by omega) 1 (by decide) (fun h46_1 => ?_) (fun h46_1 => ?_) | refine z_sw 1 (fun h46_1 => ?_) (fun h46_1 => ?_)
        · refine z_tableIn 30 rfl (by decide) (by decide) (off := 34) rfl (tgt := 80) rfl ?_
          refine z_il4 (pc' := 82) 31 rfl rfl ?_
          refine z_iconst (v := nI 2) (by decide) (pc' := 83) 32 rfl rfl ?_
          refine z_idiv (by decide) (pc' := 84) 33 rfl rfl ?_
          rw [zd2 _ (by omega)]
          exact z_ireturn 34 rfl rfl (by first | rfl | exact zbo_nar) rfl rfl (by refine ⟨?_, rfl⟩; congr 3; first | (subst h46_1; simp only [gn] <;> omega) | (subst h46_2; simp only [gn] <;> omega) | (subst h46_3; simp only [gn] <;> omega) | (subst h46_4; simp only [gn]; split <;> omega) | (subst h46_5; simp only [gn]; split <;> omega) | (have hk0 : k = 0 := (by omega); subst hk0; simp only [gn] <;> omega))
        first | refine z_swN (by omega) 2 (by decide) (fun h46_2 => ?_) (fun h46_2 => ?_) | refine z_sw 2 (fun h46_2 => ?_) (fun h46_2 => ?_)
        · refine z_tableIn 30 rfl (by decide) (by decide) (off := 39) rfl (tgt := 85) rfl ?_
          refine z_il5 (pc' := 87) 35 rfl rfl ?_
          exact z_ireturn 36 rfl rfl (by first | rfl | exact zbo_nar) rfl rfl (by refine ⟨?_, rfl⟩; congr 3; first | (subst h46_1; simp only [gn] <;> omega) | (subst h46_2; simp only [gn] <;> omega) | (subst h46_3; simp only [gn] <;> omega) | (subst h46_4; simp only [gn]; split <;> omega) | (subst h46_5; simp only [gn]; split <;> omega) | (have hk0 : k = 0 := (by omega); subst hk0; simp only [gn] <;> omega))
        first | refine z_swN (by omega) 3 (by decide) (fun h46_3 => ?_) (fun h46_3 => ?_) | refine z_sw 3 (fun h46_3 => ?_) (fun h46_3 => ?_)
        · refine z_tableIn 30 rfl (by decide) (by decide) (off := 42) rfl (tgt := 88) rfl ?_
          refine z_il5 (pc' := 90) 37 rfl rfl ?_
          refine z_iconst (v := nI 1) (by decide) (pc' := 91) 38 rfl rfl ?_
          first | refine z_iaddN (pc' := 92) 39 rfl rfl ?_ | refine z_iadd (pc' := 92) 39 rfl rfl ?_
          exact z_ireturn 40 rfl rfl (by first | rfl | exact zbo_nar) rfl rfl (by refine ⟨?_, rfl⟩; congr 3; first | (subst h46_1; simp only [gn] <;> omega) | (subst h46_2; simp only [gn] <;> omega) | (subst h46_3; simp only [gn] <;> omega) | (subst h46_4; simp only [gn]; split <;> omega) | (subst h46_5; simp only [gn]; split <;> omega) | (have hk0 : k = 0 := (by omega); subst hk0; simp only [gn] <;> omega))
        first | refine z_swN (by omega) 4 (by decide) (fun h46_4 => ?_) (fun h46_4 => ?_) | refine z_sw 4 (fun h46_4 => ?_) (fun h46_4 => ?_)
        · refine z_tableIn 30 rfl (by decide) (by decide) (off := 47) rfl (tgt := 93) rfl ?_
          refine z_il6 (pc' := 95) 41 rfl rfl ?_
          exact z_ireturn 42 rfl rfl (by first | rfl | exact zbo_nar) rfl rfl (by refine ⟨?_, rfl⟩; congr 3; first | (subst h46_1; simp only [gn] <;> omega) | (subst h46_2; simp only [gn] <;> omega) | (subst h46_3; simp only [gn] <;> omega) | (subst h46_4; simp only [gn]; split <;> omega) | (subst h46_5; simp only [gn]; split <;> omega) | (have hk0 : k = 0 := (by omega); subst hk0; simp only [gn] <;> omega))
        first | refine z_swN (by omega) 5 (by decide) (fun h46_5 => ?_) (fun h46_5 => ?_) | refine z_sw 5 (fun h46_5 => ?_) (fun h46_5 => ?_)
        · refine z_tableIn 30 rfl (by decide) (by decide) (off := 50) rfl (tgt := 96) rfl ?_
          refine z_il6 (pc' := 98) 43 rfl rfl ?_
          refine z_bipush (v := nI 9) (by decide) (pc' := 100) 44 rfl rfl ?_
          first | refine z_iaddN (pc' := 101) 45 rfl rfl ?_ | refine z_iadd (pc' := 101) 45 rfl rfl ?_
          refine z_il1 (pc' := 102) 46 rfl rfl ?_
          first | refine z_isubN (by omega) (pc' := 103) 47 rfl rfl ?_ | refine z_isub (pc' := 103) 47 rfl rfl ?_
          exact z_ireturn 48 rfl rfl (by first | rfl | exact zbo_nar) rfl rfl (by refine ⟨?_, rfl⟩; congr 3; first | (subst h46_1; simp only [gn] <;> omega) | (subst h46_2; simp only [gn] <;> omega) | (subst h46_3; simp only [gn] <;> omega) | (subst h46_4; simp only [gn]; split <;> omega) | (subst h46_5; simp only [gn]; split <;> omega) | (have hk0 : k = 0 := (by omega); subst hk0; simp only [gn] <;> omega))
        refine z_tableOut 30 rfl (by first | (rw [nI_toInt (by omega)]; omega) | (have e1 := z_ne (by decide) h46_1; have e2 := z_ne (by decide) h46_2; have e3 := z_ne (by decide) h46_3; have e4 := z_ne (by decide) h46_4; have e5 := z_ne (by decide) h46_5; omega)) (tgt := 104) rfl ?_
        refine z_il4 (pc' := 106) 49 rfl rfl ?_
        exact z_ireturn 50 rfl rfl (by first | rfl | exact zbo_nar) rfl rfl (by refine ⟨?_, rfl⟩; congr 3; first | (subst h46_1; simp only [gn] <;> omega) | (subst h46_2; simp only [gn] <;> omega) | (subst h46_3; simp only [gn] <;> omega) | (subst h46_4; simp only [gn]; split <;> omega) | (subst h46_5; simp only [gn]; split <;> omega) | (have hk0 : k = 0 := (by omega); subst hk0; simp only [gn] <;> omega))
      · refine z_iconst (v := nI 0) (by decide) (pc' := 38) 25 rfl rfl ?_
        refine z_goto 26 rfl (tgt := 43) rfl ?_
        refine z_is6 rfl rfl (pc' := 45) 28 rfl rfl ?_
        refine z_il0 (pc' := 46) 29 rfl rfl ?_
        first | refine z_swN (by omega) 1 (by decide) (fun h46_1 => ?_) (fun h46_1 => ?_) | refine z_sw 1 (fun h46_1 => ?_) (fun h46_1 => ?_)
        · refine z_tableIn 30 rfl (by decide) (by decide) (off := 34) rfl (tgt := 80) rfl ?_
          refine z_il4 (pc' := 82) 31 rfl rfl ?_
          refine z_iconst (v := nI 2) (by decide) (pc' := 83) 32 rfl rfl ?_
          refine z_idiv (by decide) (pc' := 84) 33 rfl rfl ?_
          rw [zd2 _ (by omega)]
          exact z_ireturn 34 rfl rfl (by first | rfl | exact zbo_nar) rfl rfl (by refine ⟨?_, rfl⟩; congr 3; first | (subst h46_1; simp only [gn] <;> omega) | (subst h46_2; simp only [gn] <;> omega) | (subst h46_3; simp only [gn] <;> omega) | (subst h46_4; simp only [gn]; split <;> omega) | (subst h46_5; simp only [gn]; split <;> omega) | (have hk0 : k = 0 := (by omega); subst hk0; simp only [gn] <;> omega))
        first | refine z_swN (by omega) 2 (by decide) (fun h46_2 => ?_) (fun h46_2 => ?_) | refine z_sw 2 (fun h46_2 => ?_) (fun h46_2 => ?_)
        · refine z_tableIn 30 rfl (by decide) (by decide) (off := 39) rfl (tgt := 85) rfl ?_
          refine z_il5 (pc' := 87) 35 rfl rfl ?_
          exact z_ireturn 36 rfl rfl (by first | rfl | exact zbo_nar) rfl rfl (by refine ⟨?_, rfl⟩; congr 3; first | (subst h46_1; simp only [gn] <;> omega) | (subst h46_2; simp only [gn] <;> omega) | (subst h46_3; simp only [gn] <;> omega) | (subst h46_4; simp only [gn]; split <;> omega) | (subst h46_5; simp only [gn]; split <;> omega) | (have hk0 : k = 0 := (by omega); subst hk0; simp only [gn] <;> omega))
        first | refine z_swN (by omega) 3 (by decide) (fun h46_3 => ?_) (fun h46_3 => ?_) | refine z_sw 3 (fun h46_3 => ?_) (fun h46_3 => ?_)
        · refine z_tableIn 30 rfl (by decide) (by decide) (off := 42) rfl (tgt := 88) rfl ?_
          refine z_il5 (pc' := 90) 37 rfl rfl ?_
          refine z_iconst (v := nI 1) (by decide) (pc' := 91) 38 rfl rfl ?_
          first | refine z_iaddN (pc' := 92) 39 rfl rfl ?_ | refine z_iadd (pc' := 92) 39 rfl rfl ?_
          exact z_ireturn 40 rfl rfl (by first | rfl | exact zbo_nar) rfl rfl (by refine ⟨?_, rfl⟩; congr 3; first | (subst h46_1; simp only [gn] <;> omega) | (subst h46_2; simp only [gn] <;> omega) | (subst h46_3; simp only [gn] <;> omega) | (subst h46_4; simp only [gn]; split <;> omega) | (subst h46_5; simp only [gn]; split <;> omega) | (have hk0 : k = 0 := (by omega); subst hk0; simp only [gn] <;> omega))
        first | refine z_swN (by omega) 4 (by decide) (fun h46_4 => ?_) (fun h46_4 => ?_) | refine z_sw 4 (fun h46_4 => ?_) (fun h46_4 => ?_)
        · refine z_tableIn 30 rfl (by decide) (by decide) (off := 47) rfl (tgt := 93) rfl ?_
          refine z_il6 (pc' := 95) 41 rfl rfl ?_
          exact z_ireturn 42 rfl rfl (by first | rfl | exact zbo_nar) rfl rfl (by refine ⟨?_, rfl⟩; congr 3; first | (subst h46_1; simp only [gn] <;> omega) | (subst h46_2; simp only [gn] <;> omega) | (subst h46_3; simp only [gn] <;> omega) | (subst h46_4; simp only [gn]; split <;> omega) | (subst h46_5; simp only [gn]; split <;> omega) | (have hk0 : k = 0 := (by omega); subst hk0; simp only [gn] <;> omega))
        first | refine z_swN (by omega) 5 (by decide) (fun h46_5 => ?_) (fun h46_5 => ?_) | refine z_sw 5 (fun h46_5 => ?_) (fun h46_5 => ?_)
        · refine z_tableIn 30 rfl (by decide) (by decide) (off := 50) rfl (tgt := 96) rfl ?_
          refine z_il6 (pc' := 98) 43 rfl rfl ?_
          refine z_bipush (v := nI 9) (by decide) (pc' := 100) 44 rfl rfl ?_
          first | refine z_iaddN (pc' := 101) 45 rfl rfl ?_ | refine z_iadd (pc' := 101) 45 rfl rfl ?_
          refine z_il1 (pc' := 102) 46 rfl rfl ?_
          first | refine z_isubN (by omega) (pc' := 103) 47 rfl rfl ?_ | refine z_isub (pc' := 103) 47 rfl rfl ?_
          exact z_ireturn 48 rfl rfl (by first | rfl | exact zbo_nar) rfl rfl (by refine ⟨?_, rfl⟩; congr 3; first | (subst h46_1; simp only [gn] <;> omega) | (subst h46_2; simp only [gn] <;> omega) | (subst h46_3; simp only [gn] <;> omega) | (subst h46_4; simp only [gn]; split <;> omega) | (subst h46_5; simp only [gn]; split <;> omega) | (have hk0 : k = 0 := (by omega); subst hk0; simp only [gn] <;> omega))
        refine z_tableOut 30 rfl (by first | (rw [nI_toInt (by omega)]; omega) | (have e1 := z_ne (by decide) h46_1; have e2 := z_ne (by decide) h46_2; have e3 := z_ne (by decide) h46_3; have e4 := z_ne (by decide) h46_4; have e5 := z_ne (by decide) h46_5; omega)) (tgt := 104) rfl ?_
        refine z_il4 (pc' := 106) 49 rfl rfl ?_
        exact z_ireturn 50 rfl rfl (by first | rfl | exact zbo_nar) rfl rfl (by refine ⟨?_, rfl⟩; congr 3; first | (subst h46_1; simp only [gn] <;> omega) | (subst h46_2; simp only [gn] <;> omega) | (subst h46_3; simp only [gn] <;> omega) | (subst h46_4; simp only [gn]; split <;> omega) | (subst h46_5; simp only [gn]; split <;> omega) | (have hk0 : k = 0 := (by omega); subst hk0; simp only [gn] <;> omega))
    · refine z_il1 (pc' := 22) 14 rfl rfl ?_
      refine z_il2 (pc' := 23) 15 rfl rfl ?_
      refine z_iconst (v := nI 2) (by decide) (pc' := 24) 16 rfl rfl ?_
      refine z_idiv (by decide) (pc' := 25) 17 rfl rfl ?_
      rw [zd2 t (by omega)]
      first | refine z_isubN (by omega) (pc' := 26) 18 rfl rfl ?_ | refine z_isub (pc' := 26) 18 rfl rfl ?_
      refine z_goto 19 rfl (tgt := 30) rfl ?_
      refine z_is5 rfl rfl (pc' := 32) 21 rfl rfl ?_
      refine z_il3 (pc' := 33) 22 rfl rfl ?_
      refine z_iconst (v := nI 3) (by decide) (pc' := 34) 23 rfl rfl ?_
      first | refine z_icmp_geN (pc' := 37) 24 rfl rfl (tgt := 41) rfl (by omega) (by omega) (fun h34 => ?_) (fun h34 => ?_) | refine z_icmp_ge (pc' := 37) 24 rfl rfl (tgt := 41) rfl (fun h34 => ?_) (fun h34 => ?_)
      · refine z_il4 (pc' := 43) 27 rfl rfl ?_
        refine z_is6 rfl rfl (pc' := 45) 28 rfl rfl ?_
        refine z_il0 (pc' := 46) 29 rfl rfl ?_
        first | refine z_swN (by omega) 1 (by decide) (fun h46_1 => ?_) (fun h46_1 => ?_) | refine z_sw 1 (fun h46_1 => ?_) (fun h46_1 => ?_)
        · refine z_tableIn 30 rfl (by decide) (by decide) (off := 34) rfl (tgt := 80) rfl ?_
          refine z_il4 (pc' := 82) 31 rfl rfl ?_
          refine z_iconst (v := nI 2) (by decide) (pc' := 83) 32 rfl rfl ?_
          refine z_idiv (by decide) (pc' := 84) 33 rfl rfl ?_
          rw [zd2 _ (by omega)]
          exact z_ireturn 34 rfl rfl (by first | rfl | exact zbo_nar) rfl rfl (by refine ⟨?_, rfl⟩; congr 3; first | (subst h46_1; simp only [gn] <;> omega) | (subst h46_2; simp only [gn] <;> omega) | (subst h46_3; simp only [gn] <;> omega) | (subst h46_4; simp only [gn]; split <;> omega) | (subst h46_5; simp only [gn]; split <;> omega) | (have hk0 : k = 0 := (by omega); subst hk0; simp only [gn] <;> omega))
        first | refine z_swN (by omega) 2 (by decide) (fun h46_2 => ?_) (fun h46_2 => ?_) | refine z_sw 2 (fun h46_2 => ?_) (fun h46_2 => ?_)
        · refine z_tableIn 30 rfl (by decide) (by decide) (off := 39) rfl (tgt := 85) rfl ?_
          refine z_il5 (pc' := 87) 35 rfl rfl ?_
          exact z_ireturn 36 rfl rfl (by first | rfl | exact zbo_nar) rfl rfl (by refine ⟨?_, rfl⟩; congr 3; first | (subst h46_1; simp only [gn] <;> omega) | (subst h46_2; simp only [gn] <;> omega) | (subst h46_3; simp only [gn] <;> omega) | (subst h46_4; simp only [gn]; split <;> omega) | (subst h46_5; simp only [gn]; split <;> omega) | (have hk0 : k = 0 := (by omega); subst hk0; simp only [gn] <;> omega))
        first | refine z_swN (by omega) 3 (by decide) (fun h46_3 => ?_) (fun h46_3 => ?_) | refine z_sw 3 (fun h46_3 => ?_) (fun h46_3 => ?_)
        · refine z_tableIn 30 rfl (by decide) (by decide) (off := 42) rfl (tgt := 88) rfl ?_
          refine z_il5 (pc' := 90) 37 rfl rfl ?_
          refine z_iconst (v := nI 1) (by decide) (pc' := 91) 38 rfl rfl ?_
          first | refine z_iaddN (pc' := 92) 39 rfl rfl ?_ | refine z_iadd (pc' := 92) 39 rfl rfl ?_
          exact z_ireturn 40 rfl rfl (by first | rfl | exact zbo_nar) rfl rfl (by refine ⟨?_, rfl⟩; congr 3; first | (subst h46_1; simp only [gn] <;> omega) | (subst h46_2; simp only [gn] <;> omega) | (subst h46_3; simp only [gn] <;> omega) | (subst h46_4; simp only [gn]; split <;> omega) | (subst h46_5; simp only [gn]; split <;> omega) | (have hk0 : k = 0 := (by omega); subst hk0; simp only [gn] <;> omega))
        first | refine z_swN (by omega) 4 (by decide) (fun h46_4 => ?_) (fun h46_4 => ?_) | refine z_sw 4 (fun h46_4 => ?_) (fun h46_4 => ?_)
        · refine z_tableIn 30 rfl (by decide) (by decide) (off := 47) rfl (tgt := 93) rfl ?_
          refine z_il6 (pc' := 95) 41 rfl rfl ?_
          exact z_ireturn 42 rfl rfl (by first | rfl | exact zbo_nar) rfl rfl (by refine ⟨?_, rfl⟩; congr 3; first | (subst h46_1; simp only [gn] <;> omega) | (subst h46_2; simp only [gn] <;> omega) | (subst h46_3; simp only [gn] <;> omega) | (subst h46_4; simp only [gn]; split <;> omega) | (subst h46_5; simp only [gn]; split <;> omega) | (have hk0 : k = 0 := (by omega); subst hk0; simp only [gn] <;> omega))
        first | refine z_swN (by omega) 5 (by decide) (fun h46_5 => ?_) (fun h46_5 => ?_) | refine z_sw 5 (fun h46_5 => ?_) (fun h46_5 => ?_)
        · refine z_tableIn 30 rfl (by decide) (by decide) (off := 50) rfl (tgt := 96) rfl ?_
          refine z_il6 (pc' := 98) 43 rfl rfl ?_
          refine z_bipush (v := nI 9) (by decide) (pc' := 100) 44 rfl rfl ?_
          first | refine z_iaddN (pc' := 101) 45 rfl rfl ?_ | refine z_iadd (pc' := 101) 45 rfl rfl ?_
          refine z_il1 (pc' := 102) 46 rfl rfl ?_
          first | refine z_isubN (by omega) (pc' := 103) 47 rfl rfl ?_ | refine z_isub (pc' := 103) 47 rfl rfl ?_
          exact z_ireturn 48 rfl rfl (by first | rfl | exact zbo_nar) rfl rfl (by refine ⟨?_, rfl⟩; congr 3; first | (subst h46_1; simp only [gn] <;> omega) | (subst h46_2; simp only [gn] <;> omega) | (subst h46_3; simp only [gn] <;> omega) | (subst h46_4; simp only [gn]; split <;> omega) | (subst h46_5; simp only [gn]; split <;> omega) | (have hk0 : k = 0 := (by omega); subst hk0; simp only [gn] <;> omega))
        refine z_tableOut 30 rfl (by first | (rw [nI_toInt (by omega)]; omega) | (have e1 := z_ne (by decide) h46_1; have e2 := z_ne (by decide) h46_2; have e3 := z_ne (by decide) h46_3; have e4 := z_ne (by decide) h46_4; have e5 := z_ne (by decide) h46_5; omega)) (tgt := 104) rfl ?_
        refine z_il4 (pc' := 106) 49 rfl rfl ?_
        exact z_ireturn 50 rfl rfl (by first | rfl | exact zbo_nar) rfl rfl (by refine ⟨?_, rfl⟩; congr 3; first | (subst h46_1; simp only [gn] <;> omega) | (subst h46_2; simp only [gn] <;> omega) | (subst h46_3; simp only [gn] <;> omega) | (subst h46_4; simp only [gn]; split <;> omega) | (subst h46_5; simp only [gn]; split <;> omega) | (have hk0 : k = 0 := (by omega); subst hk0; simp only [gn] <;> omega))
      · refine z_iconst (v := nI 0) (by decide) (pc' := 38) 25 rfl rfl ?_
        refine z_goto 26 rfl (tgt := 43) rfl ?_
        refine z_is6 rfl rfl (pc' := 45) 28 rfl rfl ?_
        refine z_il0 (pc' := 46) 29 rfl rfl ?_
        first | refine z_swN (by omega) 1 (by decide) (fun h46_1 => ?_) (fun h46_1 => ?_) | refine z_sw 1 (fun h46_1 => ?_) (fun h46_1 => ?_)
        · refine z_tableIn 30 rfl (by decide) (by decide) (off := 34) rfl (tgt := 80) rfl ?_
          refine z_il4 (pc' := 82) 31 rfl rfl ?_
          refine z_iconst (v := nI 2) (by decide) (pc' := 83) 32 rfl rfl ?_
          refine z_idiv (by decide) (pc' := 84) 33 rfl rfl ?_
          rw [zd2 _ (by omega)]
          exact z_ireturn 34 rfl rfl (by first | rfl | exact zbo_nar) rfl rfl (by refine ⟨?_, rfl⟩; congr 3; first | (subst h46_1; simp only [gn] <;> omega) | (subst h46_2; simp only [gn] <;> omega) | (subst h46_3; simp only [gn] <;> omega) | (subst h46_4; simp only [gn]; split <;> omega) | (subst h46_5; simp only [gn]; split <;> omega) | (have hk0 : k = 0 := (by omega); subst hk0; simp only [gn] <;> omega))
        first | refine z_swN (by omega) 2 (by decide) (fun h46_2 => ?_) (fun h46_2 => ?_) | refine z_sw 2 (fun h46_2 => ?_) (fun h46_2 => ?_)
        · refine z_tableIn 30 rfl (by decide) (by decide) (off := 39) rfl (tgt := 85) rfl ?_
          refine z_il5 (pc' := 87) 35 rfl rfl ?_
          exact z_ireturn 36 rfl rfl (by first | rfl | exact zbo_nar) rfl rfl (by refine ⟨?_, rfl⟩; congr 3; first | (subst h46_1; simp only [gn] <;> omega) | (subst h46_2; simp only [gn] <;> omega) | (subst h46_3; simp only [gn] <;> omega) | (subst h46_4; simp only [gn]; split <;> omega) | (subst h46_5; simp only [gn]; split <;> omega) | (have hk0 : k = 0 := (by omega); subst hk0; simp only [gn] <;> omega))
        first | refine z_swN (by omega) 3 (by decide) (fun h46_3 => ?_) (fun h46_3 => ?_) | refine z_sw 3 (fun h46_3 => ?_) (fun h46_3 => ?_)
        · refine z_tableIn 30 rfl (by decide) (by decide) (off := 42) rfl (tgt := 88) rfl ?_
          refine z_il5 (pc' := 90) 37 rfl rfl ?_
          refine z_iconst (v := nI 1) (by decide) (pc' := 91) 38 rfl rfl ?_
          first | refine z_iaddN (pc' := 92) 39 rfl rfl ?_ | refine z_iadd (pc' := 92) 39 rfl rfl ?_
          exact z_ireturn 40 rfl rfl (by first | rfl | exact zbo_nar) rfl rfl (by refine ⟨?_, rfl⟩; congr 3; first | (subst h46_1; simp only [gn] <;> omega) | (subst h46_2; simp only [gn] <;> omega) | (subst h46_3; simp only [gn] <;> omega) | (subst h46_4; simp only [gn]; split <;> omega) | (subst h46_5; simp only [gn]; split <;> omega) | (have hk0 : k = 0 := (by omega); subst hk0; simp only [gn] <;> omega))
        first | refine z_swN (by omega) 4 (by decide) (fun h46_4 => ?_) (fun h46_4 => ?_) | refine z_sw 4 (fun h46_4 => ?_) (fun h46_4 => ?_)
        · refine z_tableIn 30 rfl (by decide) (by decide) (off := 47) rfl (tgt := 93) rfl ?_
          refine z_il6 (pc' := 95) 41 rfl rfl ?_
          exact z_ireturn 42 rfl rfl (by first | rfl | exact zbo_nar) rfl rfl (by refine ⟨?_, rfl⟩; congr 3; first | (subst h46_1; simp only [gn] <;> omega) | (subst h46_2; simp only [gn] <;> omega) | (subst h46_3; simp only [gn] <;> omega) | (subst h46_4; simp only [gn]; split <;> omega) | (subst h46_5; simp only [gn]; split <;> omega) | (have hk0 : k = 0 := (by omega); subst hk0; simp only [gn] <;> omega))
        first | refine z_swN (by omega) 5 (by decide) (fun h46_5 => ?_) (fun h46_5 => ?_) | refine z_sw 5 (fun h46_5 => ?_) (fun h46_5 => ?_)
        · refine z_tableIn 30 rfl (by decide) (by decide) (off := 50) rfl (tgt := 96) rfl ?_
          refine z_il6 (pc' := 98) 43 rfl rfl ?_
          refine z_bipush (v := nI 9) (by decide) (pc' := 100) 44 rfl rfl ?_
          first | refine z_iaddN (pc' := 101) 45 rfl rfl ?_ | refine z_iadd (pc' := 101) 45 rfl rfl ?_
          refine z_il1 (pc' := 102) 46 rfl rfl ?_
          first | refine z_isubN (by omega) (pc' := 103) 47 rfl rfl ?_ | refine z_isub (pc' := 103) 47 rfl rfl ?_
          exact z_ireturn 48 rfl rfl (by first | rfl | exact zbo_nar) rfl rfl (by refine ⟨?_, rfl⟩; congr 3; first | (subst h46_1; simp only [gn] <;> omega) | (subst h46_2; simp only [gn] <;> omega) | (subst h46_3; simp only [gn] <;> omega) | (subst h46_4; simp only [gn]; split <;> omega) | (subst h46_5; simp only [gn]; split <;> omega) | (have hk0 : k = 0 := (by omega); subst hk0; simp only [gn] <;> omega))
        refine z_tableOut 30 rfl (by first | (rw [nI_toInt (by omega)]; omega) | (have e1 := z_ne (by decide) h46_1; have e2 := z_ne (by decide) h46_2; have e3 := z_ne (by decide) h46_3; have e4 := z_ne (by decide) h46_4; have e5 := z_ne (by decide) h46_5; omega)) (tgt := 104) rfl ?_
        refine z_il4 (pc' := 106) 49 rfl rfl ?_
        exact z_ireturn 50 rfl rfl (by first | rfl | exact zbo_nar) rfl rfl (by refine ⟨?_, rfl⟩; congr 3; first | (subst h46_1; simp only [gn] <;> omega) | (subst h46_2; simp only [gn] <;> omega) | (subst h46_3; simp only [gn] <;> omega) | (subst h46_4; simp only [gn]; split <;> omega) | (subst h46_5; simp only [gn]; split <;> omega) | (have hk0 : k = 0 := (by omega); subst hk0; simp only [gn] <;> omega))
  · refine z_il1 (pc' := 6) 3 rfl rfl ?_
    refine z_il2 (pc' := 7) 4 rfl rfl ?_
    first | refine z_isubN (by omega) (pc' := 8) 5 rfl rfl ?_ | refine z_isub (pc' := 8) 5 rfl rfl ?_
    refine z_goto 6 rfl (tgt := 12) rfl ?_
    refine z_is4 rfl rfl (pc' := 14) 8 rfl rfl ?_
    refine z_il1 (pc' := 15) 9 rfl rfl ?_
    refine z_il2 (pc' := 16) 10 rfl rfl ?_
    refine z_iconst (v := nI 2) (by decide) (pc' := 17) 11 rfl rfl ?_
    refine z_idiv (by decide) (pc' := 18) 12 rfl rfl ?_
    rw [zd2 t (by omega)]
    first | refine z_icmp_leN (pc' := 21) 13 rfl rfl (tgt := 29) rfl (by omega) (by omega) (fun h18 => ?_) (fun h18 => ?_) | refine z_icmp_le (pc' := 21) 13 rfl rfl (tgt := 29) rfl (fun h18 => ?_) (fun h18 => ?_)
    · refine z_iconst (v := nI 0) (by decide) (pc' := 30) 20 rfl rfl ?_
      refine z_is5 rfl rfl (pc' := 32) 21 rfl rfl ?_
      refine z_il3 (pc' := 33) 22 rfl rfl ?_
      refine z_iconst (v := nI 3) (by decide) (pc' := 34) 23 rfl rfl ?_
      first | refine z_icmp_geN (pc' := 37) 24 rfl rfl (tgt := 41) rfl (by omega) (by omega) (fun h34 => ?_) (fun h34 => ?_) | refine z_icmp_ge (pc' := 37) 24 rfl rfl (tgt := 41) rfl (fun h34 => ?_) (fun h34 => ?_)
      · refine z_il4 (pc' := 43) 27 rfl rfl ?_
        refine z_is6 rfl rfl (pc' := 45) 28 rfl rfl ?_
        refine z_il0 (pc' := 46) 29 rfl rfl ?_
        first | refine z_swN (by omega) 1 (by decide) (fun h46_1 => ?_) (fun h46_1 => ?_) | refine z_sw 1 (fun h46_1 => ?_) (fun h46_1 => ?_)
        · refine z_tableIn 30 rfl (by decide) (by decide) (off := 34) rfl (tgt := 80) rfl ?_
          refine z_il4 (pc' := 82) 31 rfl rfl ?_
          refine z_iconst (v := nI 2) (by decide) (pc' := 83) 32 rfl rfl ?_
          refine z_idiv (by decide) (pc' := 84) 33 rfl rfl ?_
          rw [zd2 _ (by omega)]
          exact z_ireturn 34 rfl rfl (by first | rfl | exact zbo_nar) rfl rfl (by refine ⟨?_, rfl⟩; congr 3; first | (subst h46_1; simp only [gn] <;> omega) | (subst h46_2; simp only [gn] <;> omega) | (subst h46_3; simp only [gn] <;> omega) | (subst h46_4; simp only [gn]; split <;> omega) | (subst h46_5; simp only [gn]; split <;> omega) | (have hk0 : k = 0 := (by omega); subst hk0; simp only [gn] <;> omega))
        first | refine z_swN (by omega) 2 (by decide) (fun h46_2 => ?_) (fun h46_2 => ?_) | refine z_sw 2 (fun h46_2 => ?_) (fun h46_2 => ?_)
        · refine z_tableIn 30 rfl (by decide) (by decide) (off := 39) rfl (tgt := 85) rfl ?_
          refine z_il5 (pc' := 87) 35 rfl rfl ?_
          exact z_ireturn 36 rfl rfl (by first | rfl | exact zbo_nar) rfl rfl (by refine ⟨?_, rfl⟩; congr 3; first | (subst h46_1; simp only [gn] <;> omega) | (subst h46_2; simp only [gn] <;> omega) | (subst h46_3; simp only [gn] <;> omega) | (subst h46_4; simp only [gn]; split <;> omega) | (subst h46_5; simp only [gn]; split <;> omega) | (have hk0 : k = 0 := (by omega); subst hk0; simp only [gn] <;> omega))
        first | refine z_swN (by omega) 3 (by decide) (fun h46_3 => ?_) (fun h46_3 => ?_) | refine z_sw 3 (fun h46_3 => ?_) (fun h46_3 => ?_)
        · refine z_tableIn 30 rfl (by decide) (by decide) (off := 42) rfl (tgt := 88) rfl ?_
          refine z_il5 (pc' := 90) 37 rfl rfl ?_
          refine z_iconst (v := nI 1) (by decide) (pc' := 91) 38 rfl rfl ?_
          first | refine z_iaddN (pc' := 92) 39 rfl rfl ?_ | refine z_iadd (pc' := 92) 39 rfl rfl ?_
          exact z_ireturn 40 rfl rfl (by first | rfl | exact zbo_nar) rfl rfl (by refine ⟨?_, rfl⟩; congr 3; first | (subst h46_1; simp only [gn] <;> omega) | (subst h46_2; simp only [gn] <;> omega) | (subst h46_3; simp only [gn] <;> omega) | (subst h46_4; simp only [gn]; split <;> omega) | (subst h46_5; simp only [gn]; split <;> omega) | (have hk0 : k = 0 := (by omega); subst hk0; simp only [gn] <;> omega))
        first | refine z_swN (by omega) 4 (by decide) (fun h46_4 => ?_) (fun h46_4 => ?_) | refine z_sw 4 (fun h46_4 => ?_) (fun h46_4 => ?_)
        · refine z_tableIn 30 rfl (by decide) (by decide) (off := 47) rfl (tgt := 93) rfl ?_
          refine z_il6 (pc' := 95) 41 rfl rfl ?_
          exact z_ireturn 42 rfl rfl (by first | rfl | exact zbo_nar) rfl rfl (by refine ⟨?_, rfl⟩; congr 3; first | (subst h46_1; simp only [gn] <;> omega) | (subst h46_2; simp only [gn] <;> omega) | (subst h46_3; simp only [gn] <;> omega) | (subst h46_4; simp only [gn]; split <;> omega) | (subst h46_5; simp only [gn]; split <;> omega) | (have hk0 : k = 0 := (by omega); subst hk0; simp only [gn] <;> omega))
        first | refine z_swN (by omega) 5 (by decide) (fun h46_5 => ?_) (fun h46_5 => ?_) | refine z_sw 5 (fun h46_5 => ?_) (fun h46_5 => ?_)
        · refine z_tableIn 30 rfl (by decide) (by decide) (off := 50) rfl (tgt := 96) rfl ?_
          refine z_il6 (pc' := 98) 43 rfl rfl ?_
          refine z_bipush (v := nI 9) (by decide) (pc' := 100) 44 rfl rfl ?_
          first | refine z_iaddN (pc' := 101) 45 rfl rfl ?_ | refine z_iadd (pc' := 101) 45 rfl rfl ?_
          refine z_il1 (pc' := 102) 46 rfl rfl ?_
          first | refine z_isubN (by omega) (pc' := 103) 47 rfl rfl ?_ | refine z_isub (pc' := 103) 47 rfl rfl ?_
          exact z_ireturn 48 rfl rfl (by first | rfl | exact zbo_nar) rfl rfl (by refine ⟨?_, rfl⟩; congr 3; first | (subst h46_1; simp only [gn] <;> omega) | (subst h46_2; simp only [gn] <;> omega) | (subst h46_3; simp only [gn] <;> omega) | (subst h46_4; simp only [gn]; split <;> omega) | (subst h46_5; simp only [gn]; split <;> omega) | (have hk0 : k = 0 := (by omega); subst hk0; simp only [gn] <;> omega))
        refine z_tableOut 30 rfl (by first | (rw [nI_toInt (by omega)]; omega) | (have e1 := z_ne (by decide) h46_1; have e2 := z_ne (by decide) h46_2; have e3 := z_ne (by decide) h46_3; have e4 := z_ne (by decide) h46_4; have e5 := z_ne (by decide) h46_5; omega)) (tgt := 104) rfl ?_
        refine z_il4 (pc' := 106) 49 rfl rfl ?_
        exact z_ireturn 50 rfl rfl (by first | rfl | exact zbo_nar) rfl rfl (by refine ⟨?_, rfl⟩; congr 3; first | (subst h46_1; simp only [gn] <;> omega) | (subst h46_2; simp only [gn] <;> omega) | (subst h46_3; simp only [gn] <;> omega) | (subst h46_4; simp only [gn]; split <;> omega) | (subst h46_5; simp only [gn]; split <;> omega) | (have hk0 : k = 0 := (by omega); subst hk0; simp only [gn] <;> omega))
      · refine z_iconst (v := nI 0) (by decide) (pc' := 38) 25 rfl rfl ?_
        refine z_goto 26 rfl (tgt := 43) rfl ?_
        refine z_is6 rfl rfl (pc' := 45) 28 rfl rfl ?_
        refine z_il0 (pc' := 46) 29 rfl rfl ?_
        first | refine z_swN (by omega) 1 (by decide) (fun h46_1 => ?_) (fun h46_1 => ?_) | refine z_sw 1 (fun h46_1 => ?_) (fun h46_1 => ?_)
        · refine z_tableIn 30 rfl (by decide) (by decide) (off := 34) rfl (tgt := 80) rfl ?_
          refine z_il4 (pc' := 82) 31 rfl rfl ?_
          refine z_iconst (v := nI 2) (by decide) (pc' := 83) 32 rfl rfl ?_
          refine z_idiv (by decide) (pc' := 84) 33 rfl rfl ?_
          rw [zd2 _ (by omega)]
          exact z_ireturn 34 rfl rfl (by first | rfl | exact zbo_nar) rfl rfl (by refine ⟨?_, rfl⟩; congr 3; first | (subst h46_1; simp only [gn] <;> omega) | (subst h46_2; simp only [gn] <;> omega) | (subst h46_3; simp only [gn] <;> omega) | (subst h46_4; simp only [gn]; split <;> omega) | (subst h46_5; simp only [gn]; split <;> omega) | (have hk0 : k = 0 := (by omega); subst hk0; simp only [gn] <;> omega))
        first | refine z_swN (by omega) 2 (by decide) (fun h46_2 => ?_) (fun h46_2 => ?_) | refine z_sw 2 (fun h46_2 => ?_) (fun h46_2 => ?_)
        · refine z_tableIn 30 rfl (by decide) (by decide) (off := 39) rfl (tgt := 85) rfl ?_
          refine z_il5 (pc' := 87) 35 rfl rfl ?_
          exact z_ireturn 36 rfl rfl (by first | rfl | exact zbo_nar) rfl rfl (by refine ⟨?_, rfl⟩; congr 3; first | (subst h46_1; simp only [gn] <;> omega) | (subst h46_2; simp only [gn] <;> omega) | (subst h46_3; simp only [gn] <;> omega) | (subst h46_4; simp only [gn]; split <;> omega) | (subst h46_5; simp only [gn]; split <;> omega) | (have hk0 : k = 0 := (by omega); subst hk0; simp only [gn] <;> omega))
        first | refine z_swN (by omega) 3 (by decide) (fun h46_3 => ?_) (fun h46_3 => ?_) | refine z_sw 3 (fun h46_3 => ?_) (fun h46_3 => ?_)
        · refine z_tableIn 30 rfl (by decide) (by decide) (off := 42) rfl (tgt := 88) rfl ?_
          refine z_il5 (pc' := 90) 37 rfl rfl ?_
          refine z_iconst (v := nI 1) (by decide) (pc' := 91) 38 rfl rfl ?_
          first | refine z_iaddN (pc' := 92) 39 rfl rfl ?_ | refine z_iadd (pc' := 92) 39 rfl rfl ?_
          exact z_ireturn 40 rfl rfl (by first | rfl | exact zbo_nar) rfl rfl (by refine ⟨?_, rfl⟩; congr 3; first | (subst h46_1; simp only [gn] <;> omega) | (subst h46_2; simp only [gn] <;> omega) | (subst h46_3; simp only [gn] <;> omega) | (subst h46_4; simp only [gn]; split <;> omega) | (subst h46_5; simp only [gn]; split <;> omega) | (have hk0 : k = 0 := (by omega); subst hk0; simp only [gn] <;> omega))
        first | refine z_swN (by omega) 4 (by decide) (fun h46_4 => ?_) (fun h46_4 => ?_) | refine z_sw 4 (fun h46_4 => ?_) (fun h46_4 => ?_)
        · refine z_tableIn 30 rfl (by decide) (by decide) (off := 47) rfl (tgt := 93) rfl ?_
          refine z_il6 (pc' := 95) 41 rfl rfl ?_
          exact z_ireturn 42 rfl rfl (by first | rfl | exact zbo_nar) rfl rfl (by refine ⟨?_, rfl⟩; congr 3; first | (subst h46_1; simp only [gn] <;> omega) | (subst h46_2; simp only [gn] <;> omega) | (subst h46_3; simp only [gn] <;> omega) | (subst h46_4; simp only [gn]; split <;> omega) | (subst h46_5; simp only [gn]; split <;> omega) | (have hk0 : k = 0 := (by omega); subst hk0; simp only [gn] <;> omega))
        first | refine z_swN (by omega) 5 (by decide) (fun h46_5 => ?_) (fun h46_5 => ?_) | refine z_sw 5 (fun h46_5 => ?_) (fun h46_5 => ?_)
        · refine z_tableIn 30 rfl (by decide) (by decide) (off := 50) rfl (tgt := 96) rfl ?_
          refine z_il6 (pc' := 98) 43 rfl rfl ?_
          refine z_bipush (v := nI 9) (by decide) (pc' := 100) 44 rfl rfl ?_
          first | refine z_iaddN (pc' := 101) 45 rfl rfl ?_ | refine z_iadd (pc' := 101) 45 rfl rfl ?_
          refine z_il1 (pc' := 102) 46 rfl rfl ?_
          first | refine z_isubN (by omega) (pc' := 103) 47 rfl rfl ?_ | refine z_isub (pc' := 103) 47 rfl rfl ?_
          exact z_ireturn 48 rfl rfl (by first | rfl | exact zbo_nar) rfl rfl (by refine ⟨?_, rfl⟩; congr 3; first | (subst h46_1; simp only [gn] <;> omega) | (subst h46_2; simp only [gn] <;> omega) | (subst h46_3; simp only [gn] <;> omega) | (subst h46_4; simp only [gn]; split <;> omega) | (subst h46_5; simp only [gn]; split <;> omega) | (have hk0 : k = 0 := (by omega); subst hk0; simp only [gn] <;> omega))
        refine z_tableOut 30 rfl (by first | (rw [nI_toInt (by omega)]; omega) | (have e1 := z_ne (by decide) h46_1; have e2 := z_ne (by decide) h46_2; have e3 := z_ne (by decide) h46_3; have e4 := z_ne (by decide) h46_4; have e5 := z_ne (by decide) h46_5; omega)) (tgt := 104) rfl ?_
        refine z_il4 (pc' := 106) 49 rfl rfl ?_
        exact z_ireturn 50 rfl rfl (by first | rfl | exact zbo_nar) rfl rfl (by refine ⟨?_, rfl⟩; congr 3; first | (subst h46_1; simp only [gn] <;> omega) | (subst h46_2; simp only [gn] <;> omega) | (subst h46_3; simp only [gn] <;> omega) | (subst h46_4; simp only [gn]; split <;> omega) | (subst h46_5; simp only [gn]; split <;> omega) | (have hk0 : k = 0 := (by omega); subst hk0; simp only [gn] <;> omega))
    · refine z_il1 (pc' := 22) 14 rfl rfl ?_
      refine z_il2 (pc' := 23) 15 rfl rfl ?_
      refine z_iconst (v := nI 2) (by decide) (pc' := 24) 16 rfl rfl ?_
      refine z_idiv (by decide) (pc' := 25) 17 rfl rfl ?_
      rw [zd2 t (by omega)]
      first | refine z_isubN (by omega) (pc' := 26) 18 rfl rfl ?_ | refine z_isub (pc' := 26) 18 rfl rfl ?_
      refine z_goto 19 rfl (tgt := 30) rfl ?_
      refine z_is5 rfl rfl (pc' := 32) 21 rfl rfl ?_
      refine z_il3 (pc' := 33) 22 rfl rfl ?_
      refine z_iconst (v := nI 3) (by decide) (pc' := 34) 23 rfl rfl ?_
      first | refine z_icmp_geN (pc' := 37) 24 rfl rfl (tgt := 41) rfl (by omega) (by omega) (fun h34 => ?_) (fun h34 => ?_) | refine z_icmp_ge (pc' := 37) 24 rfl rfl (tgt := 41) rfl (fun h34 => ?_) (fun h34 => ?_)
      · refine z_il4 (pc' := 43) 27 rfl rfl ?_
        refine z_is6 rfl rfl (pc' := 45) 28 rfl rfl ?_
        refine z_il0 (pc' := 46) 29 rfl rfl ?_
        first | refine z_swN (by omega) 1 (by decide) (fun h46_1 => ?_) (fun h46_1 => ?_) | refine z_sw 1 (fun h46_1 => ?_) (fun h46_1 => ?_)
        · refine z_tableIn 30 rfl (by decide) (by decide) (off := 34) rfl (tgt := 80) rfl ?_
          refine z_il4 (pc' := 82) 31 rfl rfl ?_
          refine z_iconst (v := nI 2) (by decide) (pc' := 83) 32 rfl rfl ?_
          refine z_idiv (by decide) (pc' := 84) 33 rfl rfl ?_
          rw [zd2 _ (by omega)]
          exact z_ireturn 34 rfl rfl (by first | rfl | exact zbo_nar) rfl rfl (by refine ⟨?_, rfl⟩; congr 3; first | (subst h46_1; simp only [gn] <;> omega) | (subst h46_2; simp only [gn] <;> omega) | (subst h46_3; simp only [gn] <;> omega) | (subst h46_4; simp only [gn]; split <;> omega) | (subst h46_5; simp only [gn]; split <;> omega) | (have hk0 : k = 0 := (by omega); subst hk0; simp only [gn] <;> omega))
        first | refine z_swN (by omega) 2 (by decide) (fun h46_2 => ?_) (fun h46_2 => ?_) | refine z_sw 2 (fun h46_2 => ?_) (fun h46_2 => ?_)
        · refine z_tableIn 30 rfl (by decide) (by decide) (off := 39) rfl (tgt := 85) rfl ?_
          refine z_il5 (pc' := 87) 35 rfl rfl ?_
          exact z_ireturn 36 rfl rfl (by first | rfl | exact zbo_nar) rfl rfl (by refine ⟨?_, rfl⟩; congr 3; first | (subst h46_1; simp only [gn] <;> omega) | (subst h46_2; simp only [gn] <;> omega) | (subst h46_3; simp only [gn] <;> omega) | (subst h46_4; simp only [gn]; split <;> omega) | (subst h46_5; simp only [gn]; split <;> omega) | (have hk0 : k = 0 := (by omega); subst hk0; simp only [gn] <;> omega))
        first | refine z_swN (by omega) 3 (by decide) (fun h46_3 => ?_) (fun h46_3 => ?_) | refine z_sw 3 (fun h46_3 => ?_) (fun h46_3 => ?_)
        · refine z_tableIn 30 rfl (by decide) (by decide) (off := 42) rfl (tgt := 88) rfl ?_
          refine z_il5 (pc' := 90) 37 rfl rfl ?_
          refine z_iconst (v := nI 1) (by decide) (pc' := 91) 38 rfl rfl ?_
          first | refine z_iaddN (pc' := 92) 39 rfl rfl ?_ | refine z_iadd (pc' := 92) 39 rfl rfl ?_
          exact z_ireturn 40 rfl rfl (by first | rfl | exact zbo_nar) rfl rfl (by refine ⟨?_, rfl⟩; congr 3; first | (subst h46_1; simp only [gn] <;> omega) | (subst h46_2; simp only [gn] <;> omega) | (subst h46_3; simp only [gn] <;> omega) | (subst h46_4; simp only [gn]; split <;> omega) | (subst h46_5; simp only [gn]; split <;> omega) | (have hk0 : k = 0 := (by omega); subst hk0; simp only [gn] <;> omega))
        first | refine z_swN (by omega) 4 (by decide) (fun h46_4 => ?_) (fun h46_4 => ?_) | refine z_sw 4 (fun h46_4 => ?_) (fun h46_4 => ?_)
        · refine z_tableIn 30 rfl (by decide) (by decide) (off := 47) rfl (tgt := 93) rfl ?_
          refine z_il6 (pc' := 95) 41 rfl rfl ?_
          exact z_ireturn 42 rfl rfl (by first | rfl | exact zbo_nar) rfl rfl (by refine ⟨?_, rfl⟩; congr 3; first | (subst h46_1; simp only [gn] <;> omega) | (subst h46_2; simp only [gn] <;> omega) | (subst h46_3; simp only [gn] <;> omega) | (subst h46_4; simp only [gn]; split <;> omega) | (subst h46_5; simp only [gn]; split <;> omega) | (have hk0 : k = 0 := (by omega); subst hk0; simp only [gn] <;> omega))
        first | refine z_swN (by omega) 5 (by decide) (fun h46_5 => ?_) (fun h46_5 => ?_) | refine z_sw 5 (fun h46_5 => ?_) (fun h46_5 => ?_)
        · refine z_tableIn 30 rfl (by decide) (by decide) (off := 50) rfl (tgt := 96) rfl ?_
          refine z_il6 (pc' := 98) 43 rfl rfl ?_
          refine z_bipush (v := nI 9) (by decide) (pc' := 100) 44 rfl rfl ?_
          first | refine z_iaddN (pc' := 101) 45 rfl rfl ?_ | refine z_iadd (pc' := 101) 45 rfl rfl ?_
          refine z_il1 (pc' := 102) 46 rfl rfl ?_
          first | refine z_isubN (by omega) (pc' := 103) 47 rfl rfl ?_ | refine z_isub (pc' := 103) 47 rfl rfl ?_
          exact z_ireturn 48 rfl rfl (by first | rfl | exact zbo_nar) rfl rfl (by refine ⟨?_, rfl⟩; congr 3; first | (subst h46_1; simp only [gn] <;> omega) | (subst h46_2; simp only [gn] <;> omega) | (subst h46_3; simp only [gn] <;> omega) | (subst h46_4; simp only [gn]; split <;> omega) | (subst h46_5; simp only [gn]; split <;> omega) | (have hk0 : k = 0 := (by omega); subst hk0; simp only [gn] <;> omega))
        refine z_tableOut 30 rfl (by first | (rw [nI_toInt (by omega)]; omega) | (have e1 := z_ne (by decide) h46_1; have e2 := z_ne (by decide) h46_2; have e3 := z_ne (by decide) h46_3; have e4 := z_ne (by decide) h46_4; have e5 := z_ne (by decide) h46_5; omega)) (tgt := 104) rfl ?_
        refine z_il4 (pc' := 106) 49 rfl rfl ?_
        exact z_ireturn 50 rfl rfl (by first | rfl | exact zbo_nar) rfl rfl (by refine ⟨?_, rfl⟩; congr 3; first | (subst h46_1; simp only [gn] <;> omega) | (subst h46_2; simp only [gn] <;> omega) | (subst h46_3; simp only [gn] <;> omega) | (subst h46_4; simp only [gn]; split <;> omega) | (subst h46_5; simp only [gn]; split <;> omega) | (have hk0 : k = 0 := (by omega); subst hk0; simp only [gn] <;> omega))
      · refine z_iconst (v := nI 0) (by decide) (pc' := 38) 25 rfl rfl ?_
        refine z_goto 26 rfl (tgt := 43) rfl ?_
        refine z_is6 rfl rfl (pc' := 45) 28 rfl rfl ?_
        refine z_il0 (pc' := 46) 29 rfl rfl ?_
        first | refine z_swN (by omega) 1 (by decide) (fun h46_1 => ?_) (fun h46_1 => ?_) | refine z_sw 1 (fun h46_1 => ?_) (fun h46_1 => ?_)
        · refine z_tableIn 30 rfl (by decide) (by decide) (off := 34) rfl (tgt := 80) rfl ?_
          refine z_il4 (pc' := 82) 31 rfl rfl ?_
          refine z_iconst (v := nI 2) (by decide) (pc' := 83) 32 rfl rfl ?_
          refine z_idiv (by decide) (pc' := 84) 33 rfl rfl ?_
          rw [zd2 _ (by omega)]
          exact z_ireturn 34 rfl rfl (by first | rfl | exact zbo_nar) rfl rfl (by refine ⟨?_, rfl⟩; congr 3; first | (subst h46_1; simp only [gn] <;> omega) | (subst h46_2; simp only [gn] <;> omega) | (subst h46_3; simp only [gn] <;> omega) | (subst h46_4; simp only [gn]; split <;> omega) | (subst h46_5; simp only [gn]; split <;> omega) | (have hk0 : k = 0 := (by omega); subst hk0; simp only [gn] <;> omega))
        first | refine z_swN (by omega) 2 (by decide) (fun h46_2 => ?_) (fun h46_2 => ?_) | refine z_sw 2 (fun h46_2 => ?_) (fun h46_2 => ?_)
        · refine z_tableIn 30 rfl (by decide) (by decide) (off := 39) rfl (tgt := 85) rfl ?_
          refine z_il5 (pc' := 87) 35 rfl rfl ?_
          exact z_ireturn 36 rfl rfl (by first | rfl | exact zbo_nar) rfl rfl (by refine ⟨?_, rfl⟩; congr 3; first | (subst h46_1; simp only [gn] <;> omega) | (subst h46_2; simp only [gn] <;> omega) | (subst h46_3; simp only [gn] <;> omega) | (subst h46_4; simp only [gn]; split <;> omega) | (subst h46_5; simp only [gn]; split <;> omega) | (have hk0 : k = 0 := (by omega); subst hk0; simp only [gn] <;> omega))
        first | refine z_swN (by omega) 3 (by decide) (fun h46_3 => ?_) (fun h46_3 => ?_) | refine z_sw 3 (fun h46_3 => ?_) (fun h46_3 => ?_)
        · refine z_tableIn 30 rfl (by decide) (by decide) (off := 42) rfl (tgt := 88) rfl ?_
          refine z_il5 (pc' := 90) 37 rfl rfl ?_
          refine z_iconst (v := nI 1) (by decide) (pc' := 91) 38 rfl rfl ?_
          first | refine z_iaddN (pc' := 92) 39 rfl rfl ?_ | refine z_iadd (pc' := 92) 39 rfl rfl ?_
          exact z_ireturn 40 rfl rfl (by first | rfl | exact zbo_nar) rfl rfl (by refine ⟨?_, rfl⟩; congr 3; first | (subst h46_1; simp only [gn] <;> omega) | (subst h46_2; simp only [gn] <;> omega) | (subst h46_3; simp only [gn] <;> omega) | (subst h46_4; simp only [gn]; split <;> omega) | (subst h46_5; simp only [gn]; split <;> omega) | (have hk0 : k = 0 := (by omega); subst hk0; simp only [gn] <;> omega))
        first | refine z_swN (by omega) 4 (by decide) (fun h46_4 => ?_) (fun h46_4 => ?_) | refine z_sw 4 (fun h46_4 => ?_) (fun h46_4 => ?_)
        · refine z_tableIn 30 rfl (by decide) (by decide) (off := 47) rfl (tgt := 93) rfl ?_
          refine z_il6 (pc' := 95) 41 rfl rfl ?_
          exact z_ireturn 42 rfl rfl (by first | rfl | exact zbo_nar) rfl rfl (by refine ⟨?_, rfl⟩; congr 3; first | (subst h46_1; simp only [gn] <;> omega) | (subst h46_2; simp only [gn] <;> omega) | (subst h46_3; simp only [gn] <;> omega) | (subst h46_4; simp only [gn]; split <;> omega) | (subst h46_5; simp only [gn]; split <;> omega) | (have hk0 : k = 0 := (by omega); subst hk0; simp only [gn] <;> omega))
        first | refine z_swN (by omega) 5 (by decide) (fun h46_5 => ?_) (fun h46_5 => ?_) | refine z_sw 5 (fun h46_5 => ?_) (fun h46_5 => ?_)
        · refine z_tableIn 30 rfl (by decide) (by decide) (off := 50) rfl (tgt := 96) rfl ?_
          refine z_il6 (pc' := 98) 43 rfl rfl ?_
          refine z_bipush (v := nI 9) (by decide) (pc' := 100) 44 rfl rfl ?_
          first | refine z_iaddN (pc' := 101) 45 rfl rfl ?_ | refine z_iadd (pc' := 101) 45 rfl rfl ?_
          refine z_il1 (pc' := 102) 46 rfl rfl ?_
          first | refine z_isubN (by omega) (pc' := 103) 47 rfl rfl ?_ | refine z_isub (pc' := 103) 47 rfl rfl ?_
          exact z_ireturn 48 rfl rfl (by first | rfl | exact zbo_nar) rfl rfl (by refine ⟨?_, rfl⟩; congr 3; first | (subst h46_1; simp only [gn] <;> omega) | (subst h46_2; simp only [gn] <;> omega) | (subst h46_3; simp only [gn] <;> omega) | (subst h46_4; simp only [gn]; split <;> omega) | (subst h46_5; simp only [gn]; split <;> omega) | (have hk0 : k = 0 := (by omega); subst hk0; simp only [gn] <;> omega))
        refine z_tableOut 30 rfl (by first | (rw [nI_toInt (by omega)]; omega) | (have e1 := z_ne (by decide) h46_1; have e2 := z_ne (by decide) h46_2; have e3 := z_ne (by decide) h46_3; have e4 := z_ne (by decide) h46_4; have e5 := z_ne (by decide) h46_5; omega)) (tgt := 104) rfl ?_
        refine z_il4 (pc' := 106) 49 rfl rfl ?_
        exact z_ireturn 50 rfl rfl (by first | rfl | exact zbo_nar) rfl rfl (by refine ⟨?_, rfl⟩; congr 3; first | (subst h46_1; simp only [gn] <;> omega) | (subst h46_2; simp only [gn] <;> omega) | (subst h46_3; simp only [gn] <;> omega) | (subst h46_4; simp only [gn]; split <;> omega) | (subst h46_5; simp only [gn]; split <;> omega) | (have hk0 : k = 0 := (by omega); subst hk0; simp only [gn] <;> omega))
