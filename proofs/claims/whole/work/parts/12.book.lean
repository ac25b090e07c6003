/-! ===== THE RULES as the class holds them: β 0: count, size; β 1 kinds, 2 deeds, 3 begins, 4 code ===== -/
def isBk (μ : Nat → va_E) (b : Nat) (β : Nat → Nat → Nat) : Prop :=
  μ b = .inr (0, [.int (nI (β 0 0)), .ref (b + 1), .ref (b + 2), .ref (b + 3), .ref (b + 4), .int (nI (β 0 1))]) ∧
  μ (b + 1) = .inl (0, 8, .inl (fun j => nI (β 1 j))) ∧ μ (b + 2) = .inl (0, 8, .inl (fun j => nI (β 2 j))) ∧ μ (b + 3) = .inl (0, 9, .inl (fun j => nI (β 3 j))) ∧ μ (b + 4) = .inl (0, 200, .inl (fun j => nI (β 4 j)))
/-- a condition behind its parts: 10 or, 11 and, 12 not, 21 to 23 a sign with two values (13 to 17 facts, from 100 on numbers) -/
abbrev zI : Type := List (Nat × Nat × Nat)
def opv (c : Nat) : Prop := (13 ≤ c ∧ c ≤ 17) ∨ (100 ≤ c ∧ c ≤ 10099)
def okI : zI → Nat → Prop
  | [], _ => True
  | (o, l, r) :: t, k => (o = 12 ∧ 1 ≤ k ∧ okI t k) ∨ ((o = 10 ∨ o = 11) ∧ 2 ≤ k ∧ okI t (k - 1)) ∨ (21 ≤ o ∧ o ≤ 23 ∧ opv l ∧ opv r ∧ k < 10 ∧ okI t (k + 1))
def sg (code : Nat → Nat) : Nat → zI → Nat → Prop
  | b, [], e => b = e
  | b, (o, l, r) :: t, e => code b = o ∧ (if o < 21 then sg code (b + 1) t e else code (b + 1) = l ∧ code (b + 2) = r ∧ sg code (b + 3) t e)
theorem sg_le {code : Nat → Nat} : ∀ (t : zI) (b e : Nat), sg code b t e → b ≤ e
  | [], b, e, h => Nat.le_of_eq h
  | (o, l, r) :: t, b, e, h => by
    obtain ⟨-, h2⟩ := h
    by_cases ho : o < 21
    · rw [if_pos ho] at h2
      have := sg_le t _ _ h2
      omega
    · rw [if_neg ho] at h2
      have := sg_le t _ _ h2.2.2
      omega
def vl (f : Nat → Nat) (c : Nat) : Nat := if 100 ≤ c then c - 100 else f (c - 13)
def cmB (o a b : Nat) : Bool := if o = 21 then decide (a < b) else if o = 22 then decide (a = b) else decide (b < a)
def evB (f : Nat → Nat) : zI → List Bool → List Bool
  | [], s => s
  | (o, l, r) :: t, s => if o = 12 then (match s with
      | b :: s' => evB f t ((!b) :: s')
      | [] => [])
    else if o = 11 then (match s with
      | b :: a :: s' => evB f t ((a && b) :: s')
      | _ => [])
    else if o = 10 then (match s with
      | b :: a :: s' => evB f t ((a || b) :: s')
      | _ => [])
    else evB f t (cmB o (vl f l) (vl f r) :: s)
def tpB : List Bool → Bool
  | [] => true
  | b :: _ => b
def enc : List Bool → Nat
  | [] => 1
  | b :: s => 2 * enc s + (if b = true then 1 else 0)
theorem enc_le : ∀ s : List Bool, enc s < 2 ^ (s.length + 1)
  | [] => by decide
  | b :: s => by
    have ih := enc_le s
    unfold enc
    rw [List.length_cons, Nat.pow_succ]
    split <;> omega
theorem enc_10 {s : List Bool} (h : s.length ≤ 10) : enc s < 2048 := Nat.lt_of_lt_of_le (enc_le s) (show 2 ^ (s.length + 1) ≤ 2 ^ 11 from Nat.pow_le_pow_right (by decide) (by omega))
theorem eb_xor : ∀ x, x < 2048 → nI (2 * x + 0) ^^^ nI 1 = nI (2 * x + 1) ∧ nI (2 * x + 1) ^^^ nI 1 = nI (2 * x + 0) := by decide +kernel
theorem eb_one : ∀ x, x < 2048 → nI (2 * x + 0) &&& nI 1 = nI 0 ∧ nI (2 * x + 1) &&& nI 1 = nI 1 := by decide +kernel
theorem eb_shr : ∀ x, x < 2048 → nI (2 * x + 0) >>> (nI 1 &&& 31) = nI x ∧ nI (2 * x + 1) >>> (nI 1 &&& 31) = nI x := by decide +kernel
theorem eb_msk : ∀ x, x < 2048 → nI (2 * x + 0) &&& (-2) = nI (2 * x + 0) ∧ nI (2 * x + 1) &&& (-2) = nI (2 * x + 0) := by decide +kernel
theorem eb_or1 : ∀ x, x < 2048 → nI (2 * x + 0) ||| nI 1 = nI (2 * x + 1) ∧ nI (2 * x + 1) ||| nI 1 = nI (2 * x + 1) ∧ nI (2 * x + 0) ||| nI 0 = nI (2 * x + 0) := by decide +kernel
theorem eb_shl : ∀ x, x < 2048 → nI x <<< (nI 1 &&& 31) = nI (2 * x + 0) := by decide +kernel
theorem en_x (b : Bool) (s : List Bool) (h : s.length ≤ 10) : nI (enc (b :: s)) ^^^ nI 1 = nI (enc ((!b) :: s)) := by
  have := eb_xor _ (enc_10 h)
  cases b
  · exact this.1
  · exact this.2
theorem en_1 (b : Bool) (s : List Bool) (h : s.length ≤ 10) : nI (enc (b :: s)) &&& nI 1 = nI (if b = true then 1 else 0) := by
  have := eb_one _ (enc_10 h)
  cases b
  · exact this.1
  · exact this.2
theorem en_s (b : Bool) (s : List Bool) (h : s.length ≤ 10) : nI (enc (b :: s)) >>> (nI 1 &&& 31) = nI (enc s) := by
  have := eb_shr _ (enc_10 h)
  cases b
  · exact this.1
  · exact this.2
theorem en_m (b : Bool) (s : List Bool) (h : s.length ≤ 10) : nI (enc (b :: s)) &&& (-2) = nI (enc (false :: s)) := by
  have := eb_msk _ (enc_10 h)
  cases b
  · exact this.1
  · exact this.2
theorem en_o (b : Bool) (s : List Bool) (h : s.length ≤ 10) : nI (enc (b :: s)) ||| nI 1 = nI (enc (true :: s)) := by
  have := eb_or1 _ (enc_10 h)
  cases b
  · exact this.1
  · exact this.2.1
theorem en_p (b : Bool) (s : List Bool) (h : s.length ≤ 10) : nI (enc s) <<< (nI 1 &&& 31) ||| nI (if b = true then 1 else 0) = nI (enc (b :: s)) := by
  rw [eb_shl _ (enc_10 h)]
  have := eb_or1 _ (enc_10 h)
  cases b
  · exact this.2.2
  · exact this.1
set_option maxHeartbeats 4000000 in
set_option maxRecDepth 100000 in
theorem l_Bk_compares {G : zG} {n u : Nat} {μ : Nat → va_E} {b : Nat} {β : Nat → Nat → Nat} (hb : isBk μ b β) {i q k l r : Nat} {f : Nat → Nat} (hi : i + 2 < 200) (hk : β 4 i = k) (hk1 : 21 ≤ k) (hk2 : k ≤ 23) (hvl : vl f l < 2 ^ 31) (hvr : vl f r < 2 ^ 31) :
    zW G 0 M_Bk_compares 96 [.ref b, .int (nI i), .ref q, .int (nI (vl f l)), .int (nI (vl f r))] [] n u μ n u (zE (some (.int (zbo (cmB k (vl f l) (vl f r) = true)))) μ) := by
  obtain ⟨m0, m1, m2, m3, m4⟩ := hb
  have hk3 : k = 21 ∨ k = 22 ∨ k = 23 := by omega
  rcases hk3 with hk3 | hk3 | hk3 <;> subst hk3
  · refine z_al0 (pc' := 97) 65 rfl rfl ?_
    refine z_getf (pc' := 100) 66 rfl rfl f_Bk_23_0 (by assumption) (by rfl) ?_
    refine z_il1 (pc' := 101) 67 rfl rfl ?_
    refine z_iald (pc' := 102) 68 rfl rfl (by assumption) (by omega) (by decide) ?_
    rw [hk]
    refine z_lookup 69 rfl (by decide) (off := 26) (by decide) (tgt := 128) rfl ?_
    refine z_il3 (pc' := 129) 70 rfl rfl ?_
    refine z_il4 (pc' := 131) 71 rfl rfl ?_
    first | refine z_icmp_geN (pc' := 134) 72 rfl rfl (tgt := 138) rfl (by omega) (by omega) (fun h131 => ?_) (fun h131 => ?_) | refine z_icmp_ge (pc' := 134) 72 rfl rfl (tgt := 138) rfl (fun h131 => ?_) (fun h131 => ?_)
    · refine z_iconst (v := nI 0) (by decide) (pc' := 139) 75 rfl rfl ?_
      exact z_ireturn 76 rfl rfl (by first | rfl | exact zbo_nar) rfl rfl (by refine ⟨?_, rfl⟩; first | rw [zbo_t (by unfold cmB; simp; omega)] | rw [zbo_f (by unfold cmB; simp; omega)])
    · refine z_iconst (v := nI 1) (by decide) (pc' := 135) 73 rfl rfl ?_
      refine z_goto 74 rfl (tgt := 139) rfl ?_
      exact z_ireturn 76 rfl rfl (by first | rfl | exact zbo_nar) rfl rfl (by refine ⟨?_, rfl⟩; first | rw [zbo_t (by unfold cmB; simp; omega)] | rw [zbo_f (by unfold cmB; simp; omega)])
  · refine z_al0 (pc' := 97) 65 rfl rfl ?_
    refine z_getf (pc' := 100) 66 rfl rfl f_Bk_23_0 (by assumption) (by rfl) ?_
    refine z_il1 (pc' := 101) 67 rfl rfl ?_
    refine z_iald (pc' := 102) 68 rfl rfl (by assumption) (by omega) (by decide) ?_
    rw [hk]
    refine z_lookup 69 rfl (by decide) (off := 38) (by decide) (tgt := 140) rfl ?_
    refine z_il3 (pc' := 141) 77 rfl rfl ?_
    refine z_il4 (pc' := 143) 78 rfl rfl ?_
    first | refine z_icmp_neN (pc' := 146) 79 rfl rfl (tgt := 150) rfl (by omega) (by omega) (fun h143 => ?_) (fun h143 => ?_) | refine z_icmp_ne (pc' := 146) 79 rfl rfl (tgt := 150) rfl (fun h143 => ?_) (fun h143 => ?_)
    · refine z_iconst (v := nI 0) (by decide) (pc' := 151) 82 rfl rfl ?_
      exact z_ireturn 83 rfl rfl (by first | rfl | exact zbo_nar) rfl rfl (by refine ⟨?_, rfl⟩; first | rw [zbo_t (by unfold cmB; simp; omega)] | rw [zbo_f (by unfold cmB; simp; omega)])
    · refine z_iconst (v := nI 1) (by decide) (pc' := 147) 80 rfl rfl ?_
      refine z_goto 81 rfl (tgt := 151) rfl ?_
      exact z_ireturn 83 rfl rfl (by first | rfl | exact zbo_nar) rfl rfl (by refine ⟨?_, rfl⟩; first | rw [zbo_t (by unfold cmB; simp; omega)] | rw [zbo_f (by unfold cmB; simp; omega)])
  · refine z_al0 (pc' := 97) 65 rfl rfl ?_
    refine z_getf (pc' := 100) 66 rfl rfl f_Bk_23_0 (by assumption) (by rfl) ?_
    refine z_il1 (pc' := 101) 67 rfl rfl ?_
    refine z_iald (pc' := 102) 68 rfl rfl (by assumption) (by omega) (by decide) ?_
    rw [hk]
    refine z_lookup 69 rfl (by decide) (off := 50) (by decide) (tgt := 152) rfl ?_
    refine z_il3 (pc' := 153) 84 rfl rfl ?_
    refine z_il4 (pc' := 155) 85 rfl rfl ?_
    first | refine z_icmp_leN (pc' := 158) 86 rfl rfl (tgt := 162) rfl (by omega) (by omega) (fun h155 => ?_) (fun h155 => ?_) | refine z_icmp_le (pc' := 158) 86 rfl rfl (tgt := 162) rfl (fun h155 => ?_) (fun h155 => ?_)
    · refine z_iconst (v := nI 0) (by decide) (pc' := 163) 89 rfl rfl ?_
      exact z_ireturn 90 rfl rfl (by first | rfl | exact zbo_nar) rfl rfl (by refine ⟨?_, rfl⟩; first | rw [zbo_t (by unfold cmB; simp; omega)] | rw [zbo_f (by unfold cmB; simp; omega)])
    · refine z_iconst (v := nI 1) (by decide) (pc' := 159) 87 rfl rfl ?_
      refine z_goto 88 rfl (tgt := 163) rfl ?_
      exact z_ireturn 90 rfl rfl (by first | rfl | exact zbo_nar) rfl rfl (by refine ⟨?_, rfl⟩; first | rw [zbo_t (by unfold cmB; simp; omega)] | rw [zbo_f (by unfold cmB; simp; omega)])
set_option maxHeartbeats 4000000 in
set_option maxRecDepth 100000 in
theorem c_Bk_compares {G : zG} {n u : Nat} {μ : Nat → va_E} {b : Nat} {β : Nat → Nat → Nat} (hb : isBk μ b β) {i q k l r : Nat} {f : Nat → Nat} (hq : μ q = .inl (0, 5, .inl (fun j => nI (f j)))) (hi : i + 2 < 200) (hk : β 4 i = k) (hl : β 4 (i + 1) = l) (hr : β 4 (i + 2) = r) (hk1 : 21 ≤ k) (hk2 : k ≤ 23) (hol : opv l) (hor : opv r) (hf : ∀ j, j < 5 → f j < 2 ^ 31) :
    zMet G 0 M_Bk_compares [.ref b, .int (nI i), .ref q] n u μ n u (zE (some (.int (zbo (cmB k (vl f l) (vl f r) = true)))) μ) := by
  refine z_start (lv := [.ref b, .int (nI i), .ref q, .retAddr 0, .retAddr 0]) K_Bk_compares rfl rfl (Nat.le_refl _) (Nat.le_refl _) (Nat.le_of_ble_eq_true rfl) rfl ?_
  have hb0 := hb
  obtain ⟨m0, m1, m2, m3, m4⟩ := hb
  unfold opv at hol hor
  have hvl : vl f l < 2 ^ 31 := by unfold vl; split <;> first | omega | exact hf _ (by omega)
  have hvr : vl f r < 2 ^ 31 := by unfold vl; split <;> first | omega | exact hf _ (by omega)
  refine z_il1 (pc' := 1) 0 rfl rfl ?_
  refine z_iconst (v := nI 2) (by decide) (pc' := 2) 1 rfl rfl ?_
  first | refine z_iaddN (pc' := 3) 2 rfl rfl ?_ | refine z_iadd (pc' := 3) 2 rfl rfl ?_
  refine z_al0 (pc' := 4) 3 rfl rfl ?_
  refine z_getf (pc' := 7) 4 rfl rfl f_Bk_23_0 (by assumption) (by rfl) ?_
  refine z_alen (pc' := 8) (kd := 0) 5 rfl rfl (by assumption) ?_
  refine z_icmp_lt_t 6 rfl (tgt := 13) rfl (nI_lt (by omega) (by decide)) ?_
  refine z_al0 (pc' := 14) 9 rfl rfl ?_
  refine z_getf (pc' := 17) 10 rfl rfl f_Bk_23_0 (by assumption) (by rfl) ?_
  refine z_il1 (pc' := 18) 11 rfl rfl ?_
  refine z_iconst (v := nI 1) (by decide) (pc' := 19) 12 rfl rfl ?_
  first | refine z_iaddN (pc' := 20) 13 rfl rfl ?_ | refine z_iadd (pc' := 20) 13 rfl rfl ?_
  refine z_iald (pc' := 21) 14 rfl rfl (by assumption) (by omega) (by decide) ?_
  rw [hl]
  refine z_bipush (v := nI 100) (by decide) (pc' := 23) 15 rfl rfl ?_
  first | refine z_icmp_ltN (pc' := 26) 16 rfl rfl (tgt := 40) rfl (by omega) (by omega) (fun h23 => ?_) (fun h23 => ?_) | refine z_icmp_lt (pc' := 26) 16 rfl rfl (tgt := 40) rfl (fun h23 => ?_) (fun h23 => ?_)
  · refine z_al2 (pc' := 41) 26 rfl rfl ?_
    refine z_al0 (pc' := 42) 27 rfl rfl ?_
    refine z_getf (pc' := 45) 28 rfl rfl f_Bk_23_0 (by assumption) (by rfl) ?_
    refine z_il1 (pc' := 46) 29 rfl rfl ?_
    refine z_iconst (v := nI 1) (by decide) (pc' := 47) 30 rfl rfl ?_
    first | refine z_iaddN (pc' := 48) 31 rfl rfl ?_ | refine z_iadd (pc' := 48) 31 rfl rfl ?_
    refine z_iald (pc' := 49) 32 rfl rfl (by assumption) (by omega) (by decide) ?_
    rw [hl]
    refine z_bipush (v := nI 13) (by decide) (pc' := 51) 33 rfl rfl ?_
    first | refine z_isubN (by omega) (pc' := 52) 34 rfl rfl ?_ | refine z_isub (pc' := 52) 34 rfl rfl ?_
    refine z_iald (pc' := 53) 35 rfl rfl (by assumption) (by omega) (by decide) ?_
    first | rw [show l - 100 = vl f l from (if_pos (by omega)).symm] | rw [show f (l - 13) = vl f l from (if_neg (by omega)).symm]
    refine z_is3 rfl rfl (pc' := 54) 36 rfl rfl ?_
    refine z_al0 (pc' := 55) 37 rfl rfl ?_
    refine z_getf (pc' := 58) 38 rfl rfl f_Bk_23_0 (by assumption) (by rfl) ?_
    refine z_il1 (pc' := 59) 39 rfl rfl ?_
    refine z_iconst (v := nI 2) (by decide) (pc' := 60) 40 rfl rfl ?_
    first | refine z_iaddN (pc' := 61) 41 rfl rfl ?_ | refine z_iadd (pc' := 61) 41 rfl rfl ?_
    refine z_iald (pc' := 62) 42 rfl rfl (by assumption) (by omega) (by decide) ?_
    rw [hr]
    refine z_bipush (v := nI 100) (by decide) (pc' := 64) 43 rfl rfl ?_
    first | refine z_icmp_ltN (pc' := 67) 44 rfl rfl (tgt := 81) rfl (by omega) (by omega) (fun h64 => ?_) (fun h64 => ?_) | refine z_icmp_lt (pc' := 67) 44 rfl rfl (tgt := 81) rfl (fun h64 => ?_) (fun h64 => ?_)
    · refine z_al2 (pc' := 82) 54 rfl rfl ?_
      refine z_al0 (pc' := 83) 55 rfl rfl ?_
      refine z_getf (pc' := 86) 56 rfl rfl f_Bk_23_0 (by assumption) (by rfl) ?_
      refine z_il1 (pc' := 87) 57 rfl rfl ?_
      refine z_iconst (v := nI 2) (by decide) (pc' := 88) 58 rfl rfl ?_
      first | refine z_iaddN (pc' := 89) 59 rfl rfl ?_ | refine z_iadd (pc' := 89) 59 rfl rfl ?_
      refine z_iald (pc' := 90) 60 rfl rfl (by assumption) (by omega) (by decide) ?_
      rw [hr]
      refine z_bipush (v := nI 13) (by decide) (pc' := 92) 61 rfl rfl ?_
      first | refine z_isubN (by omega) (pc' := 93) 62 rfl rfl ?_ | refine z_isub (pc' := 93) 62 rfl rfl ?_
      refine z_iald (pc' := 94) 63 rfl rfl (by assumption) (by omega) (by decide) ?_
      first | rw [show r - 100 = vl f r from (if_pos (by omega)).symm] | rw [show f (r - 13) = vl f r from (if_neg (by omega)).symm]
      refine z_is4 rfl rfl (pc' := 96) 64 rfl rfl ?_
      exact l_Bk_compares hb0 hi hk hk1 hk2 hvl hvr
    · refine z_al0 (pc' := 68) 45 rfl rfl ?_
      refine z_getf (pc' := 71) 46 rfl rfl f_Bk_23_0 (by assumption) (by rfl) ?_
      refine z_il1 (pc' := 72) 47 rfl rfl ?_
      refine z_iconst (v := nI 2) (by decide) (pc' := 73) 48 rfl rfl ?_
      first | refine z_iaddN (pc' := 74) 49 rfl rfl ?_ | refine z_iadd (pc' := 74) 49 rfl rfl ?_
      refine z_iald (pc' := 75) 50 rfl rfl (by assumption) (by omega) (by decide) ?_
      rw [hr]
      refine z_bipush (v := nI 100) (by decide) (pc' := 77) 51 rfl rfl ?_
      first | refine z_isubN (by omega) (pc' := 78) 52 rfl rfl ?_ | refine z_isub (pc' := 78) 52 rfl rfl ?_
      refine z_goto 53 rfl (tgt := 94) rfl ?_
      first | rw [show r - 100 = vl f r from (if_pos (by omega)).symm] | rw [show f (r - 13) = vl f r from (if_neg (by omega)).symm]
      refine z_is4 rfl rfl (pc' := 96) 64 rfl rfl ?_
      exact l_Bk_compares hb0 hi hk hk1 hk2 hvl hvr
  · refine z_al0 (pc' := 27) 17 rfl rfl ?_
    refine z_getf (pc' := 30) 18 rfl rfl f_Bk_23_0 (by assumption) (by rfl) ?_
    refine z_il1 (pc' := 31) 19 rfl rfl ?_
    refine z_iconst (v := nI 1) (by decide) (pc' := 32) 20 rfl rfl ?_
    first | refine z_iaddN (pc' := 33) 21 rfl rfl ?_ | refine z_iadd (pc' := 33) 21 rfl rfl ?_
    refine z_iald (pc' := 34) 22 rfl rfl (by assumption) (by omega) (by decide) ?_
    rw [hl]
    refine z_bipush (v := nI 100) (by decide) (pc' := 36) 23 rfl rfl ?_
    first | refine z_isubN (by omega) (pc' := 37) 24 rfl rfl ?_ | refine z_isub (pc' := 37) 24 rfl rfl ?_
    refine z_goto 25 rfl (tgt := 53) rfl ?_
    first | rw [show l - 100 = vl f l from (if_pos (by omega)).symm] | rw [show f (l - 13) = vl f l from (if_neg (by omega)).symm]
    refine z_is3 rfl rfl (pc' := 54) 36 rfl rfl ?_
    refine z_al0 (pc' := 55) 37 rfl rfl ?_
    refine z_getf (pc' := 58) 38 rfl rfl f_Bk_23_0 (by assumption) (by rfl) ?_
    refine z_il1 (pc' := 59) 39 rfl rfl ?_
    refine z_iconst (v := nI 2) (by decide) (pc' := 60) 40 rfl rfl ?_
    first | refine z_iaddN (pc' := 61) 41 rfl rfl ?_ | refine z_iadd (pc' := 61) 41 rfl rfl ?_
    refine z_iald (pc' := 62) 42 rfl rfl (by assumption) (by omega) (by decide) ?_
    rw [hr]
    refine z_bipush (v := nI 100) (by decide) (pc' := 64) 43 rfl rfl ?_
    first | refine z_icmp_ltN (pc' := 67) 44 rfl rfl (tgt := 81) rfl (by omega) (by omega) (fun h64 => ?_) (fun h64 => ?_) | refine z_icmp_lt (pc' := 67) 44 rfl rfl (tgt := 81) rfl (fun h64 => ?_) (fun h64 => ?_)
    · refine z_al2 (pc' := 82) 54 rfl rfl ?_
      refine z_al0 (pc' := 83) 55 rfl rfl ?_
      refine z_getf (pc' := 86) 56 rfl rfl f_Bk_23_0 (by assumption) (by rfl) ?_
      refine z_il1 (pc' := 87) 57 rfl rfl ?_
      refine z_iconst (v := nI 2) (by decide) (pc' := 88) 58 rfl rfl ?_
      first | refine z_iaddN (pc' := 89) 59 rfl rfl ?_ | refine z_iadd (pc' := 89) 59 rfl rfl ?_
      refine z_iald (pc' := 90) 60 rfl rfl (by assumption) (by omega) (by decide) ?_
      rw [hr]
      refine z_bipush (v := nI 13) (by decide) (pc' := 92) 61 rfl rfl ?_
      first | refine z_isubN (by omega) (pc' := 93) 62 rfl rfl ?_ | refine z_isub (pc' := 93) 62 rfl rfl ?_
      refine z_iald (pc' := 94) 63 rfl rfl (by assumption) (by omega) (by decide) ?_
      first | rw [show r - 100 = vl f r from (if_pos (by omega)).symm] | rw [show f (r - 13) = vl f r from (if_neg (by omega)).symm]
      refine z_is4 rfl rfl (pc' := 96) 64 rfl rfl ?_
      exact l_Bk_compares hb0 hi hk hk1 hk2 hvl hvr
    · refine z_al0 (pc' := 68) 45 rfl rfl ?_
      refine z_getf (pc' := 71) 46 rfl rfl f_Bk_23_0 (by assumption) (by rfl) ?_
      refine z_il1 (pc' := 72) 47 rfl rfl ?_
      refine z_iconst (v := nI 2) (by decide) (pc' := 73) 48 rfl rfl ?_
      first | refine z_iaddN (pc' := 74) 49 rfl rfl ?_ | refine z_iadd (pc' := 74) 49 rfl rfl ?_
      refine z_iald (pc' := 75) 50 rfl rfl (by assumption) (by omega) (by decide) ?_
      rw [hr]
      refine z_bipush (v := nI 100) (by decide) (pc' := 77) 51 rfl rfl ?_
      first | refine z_isubN (by omega) (pc' := 78) 52 rfl rfl ?_ | refine z_isub (pc' := 78) 52 rfl rfl ?_
      refine z_goto 53 rfl (tgt := 94) rfl ?_
      first | rw [show r - 100 = vl f r from (if_pos (by omega)).symm] | rw [show f (r - 13) = vl f r from (if_neg (by omega)).symm]
      refine z_is4 rfl rfl (pc' := 96) 64 rfl rfl ?_
      exact l_Bk_compares hb0 hi hk hk1 hk2 hvl hvr
set_option maxHeartbeats 4000000 in
set_option maxRecDepth 100000 in
theorem l_Bk_holds {G : zG} {n u : Nat} {μ : Nat → va_E} {b : Nat} {β : Nat → Nat → Nat} (hb : isBk μ b β) {q r e : Nat} {f : Nat → Nat} (hq : μ q = .inl (0, 5, .inl (fun j => nI (f j)))) (hr : r < 8) (he : β 3 (r + 1) = e) (he2 : e ≤ 200) (hf : ∀ j, j < 5 → f j < 2 ^ 31) : ∀ (its : zI) (i : Nat) (s : List Bool), sg (β 4) i its e → okI its s.length → s.length ≤ 10 →
    zW G 1 M_Bk_holds 10 [.ref b, .int (nI r), .ref q, .int (nI (enc s)), .int (nI i)] [] n u μ n u (zE (some (.int (zbo (tpB (evB f its s) = true)))) μ)
  | [], i, s, hs, hok, hs10 => by
    have hi : i = e := hs
    have hb0 := hb
    obtain ⟨m0, m1, m2, m3, m4⟩ := hb
    refine z_il4 (pc' := 12) 7 rfl rfl ?_
    refine z_al0 (pc' := 13) 8 rfl rfl ?_
    refine z_getf (pc' := 16) 9 rfl rfl f_Bk_18_0 (by assumption) (by rfl) ?_
    refine z_il1 (pc' := 17) 10 rfl rfl ?_
    refine z_iconst (v := nI 1) (by decide) (pc' := 18) 11 rfl rfl ?_
    first | refine z_iaddN (pc' := 19) 12 rfl rfl ?_ | refine z_iadd (pc' := 19) 12 rfl rfl ?_
    refine z_iald (pc' := 20) 13 rfl rfl (by assumption) (by omega) (by decide) ?_
    rw [he]
    first | refine z_icmp_geN (pc' := 23) 14 rfl rfl (tgt := 135) rfl (by omega) (by omega) (fun h20 => ?_) (fun h20 => ?_) | refine z_icmp_ge (pc' := 23) 14 rfl rfl (tgt := 135) rfl (fun h20 => ?_) (fun h20 => ?_)
    · refine z_il3 (pc' := 136) 71 rfl rfl ?_
      refine z_iconst (v := nI 1) (by decide) (pc' := 137) 72 rfl rfl ?_
      refine z_iand (pc' := 138) 73 rfl rfl ?_
      refine z_te (show _ = zbo (tpB s = true) from by cases s with | nil => rfl | cons b0 s0 => rw [en_1 b0 s0 (by simp at hs10; omega)]; cases b0 <;> rfl) ?_
      first | rw [hx1] | skip
      first | refine z_if_eqB (pc' := 141) 74 rfl rfl (tgt := 145) rfl (fun h138 => ?_) (fun h138 => ?_) | refine z_if_eqN (pc' := 141) 74 rfl rfl (tgt := 145) rfl (by omega) (fun h138 => ?_) (fun h138 => ?_) | refine z_if_eq (pc' := 141) 74 rfl rfl (tgt := 145) rfl (fun h138 => ?_) (fun h138 => ?_)
      · refine z_iconst (v := nI 0) (by decide) (pc' := 146) 77 rfl rfl ?_
        exact z_ireturn 78 rfl rfl (by first | rfl | exact zbo_nar) rfl rfl (by refine ⟨?_, rfl⟩; first | rw [zbo_t (by simpa [evB] using h138)] | rw [zbo_f (by simpa [evB] using h138)])
      · refine z_iconst (v := nI 1) (by decide) (pc' := 142) 75 rfl rfl ?_
        refine z_goto 76 rfl (tgt := 146) rfl ?_
        exact z_ireturn 78 rfl rfl (by first | rfl | exact zbo_nar) rfl rfl (by refine ⟨?_, rfl⟩; first | rw [zbo_t (by simpa [evB] using h138)] | rw [zbo_f (by simpa [evB] using h138)])
    · exfalso; omega
  | (o, l, r0) :: t, i, s, hs, hok, hs10 => by
    have hb0 := hb
    obtain ⟨m0, m1, m2, m3, m4⟩ := hb
    obtain ⟨hb1, hs2⟩ := hs
    rcases hok with ⟨rfl, ho1, hok⟩ | ⟨ho, ho1, hok⟩ | ⟨ho1, ho2, hol, hor, ho3, hok⟩
    · rw [if_pos (by decide)] at hs2
      have hle := sg_le _ _ _ hs2
      match s, ho1, hok, hs10 with
      | b1 :: s1, _, hok, hs10 =>
        have hs11 : s1.length ≤ 10 := by simp at hs10; omega
        rw [show evB f ((12, l, r0) :: t) (b1 :: s1) = evB f t ((!b1) :: s1) from by simp [evB]]
        refine z_il4 (pc' := 12) 7 rfl rfl ?_
        refine z_al0 (pc' := 13) 8 rfl rfl ?_
        refine z_getf (pc' := 16) 9 rfl rfl f_Bk_18_0 (by assumption) (by rfl) ?_
        refine z_il1 (pc' := 17) 10 rfl rfl ?_
        refine z_iconst (v := nI 1) (by decide) (pc' := 18) 11 rfl rfl ?_
        first | refine z_iaddN (pc' := 19) 12 rfl rfl ?_ | refine z_iadd (pc' := 19) 12 rfl rfl ?_
        refine z_iald (pc' := 20) 13 rfl rfl (by assumption) (by omega) (by decide) ?_
        rw [he]
        first | refine z_icmp_geN (pc' := 23) 14 rfl rfl (tgt := 135) rfl (by omega) (by omega) (fun h20 => ?_) (fun h20 => ?_) | refine z_icmp_ge (pc' := 23) 14 rfl rfl (tgt := 135) rfl (fun h20 => ?_) (fun h20 => ?_)
        · exfalso; omega
        · refine z_al0 (pc' := 24) 15 rfl rfl ?_
          refine z_getf (pc' := 27) 16 rfl rfl f_Bk_23_0 (by assumption) (by rfl) ?_
          refine z_il4 (pc' := 29) 17 rfl rfl ?_
          refine z_iald (pc' := 30) 18 rfl rfl (by assumption) (by omega) (by decide) ?_
          rw [hb1]
          refine z_tableIn 19 rfl (by decide) (by decide) (off := 26) rfl (tgt := 56) rfl ?_
          refine z_il3 (pc' := 57) 20 rfl rfl ?_
          refine z_iconst (v := nI 1) (by decide) (pc' := 58) 21 rfl rfl ?_
          refine z_ixor (pc' := 59) 22 rfl rfl ?_
          refine z_te (en_x b1 s1 hs11) ?_
          refine z_is3 rfl rfl (pc' := 60) 23 rfl rfl ?_
          refine z_goto 24 rfl (tgt := 129) rfl ?_
          first | refine z_inc4N rfl rfl (pc' := 132) 69 rfl rfl ?_ | refine z_inc4 rfl rfl rfl (pc' := 132) 69 rfl rfl ?_
          refine z_goto 70 rfl (tgt := 10) rfl ?_
          exact l_Bk_holds hb0 hq hr he he2 hf t _ ((!b1) :: s1) hs2 (by simpa using hok) (by simpa using hs10)
    · have ho21 : o < 21 := by omega
      rw [if_pos ho21] at hs2
      have hle := sg_le _ _ _ hs2
      match s, ho1, hok, hs10 with
      | b1 :: b2 :: s1, _, hok, hs10 =>
        have hs11 : s1.length ≤ 10 := by simp at hs10; omega
        have hs12 : (b2 :: s1).length ≤ 10 := by simp at hs10 ⊢; omega
        rcases ho with rfl | rfl
        · cases b1
          · rw [show evB f ((10, l, r0) :: t) (false :: b2 :: s1) = evB f t (b2 :: s1) from by simp [evB]]
            refine z_il4 (pc' := 12) 7 rfl rfl ?_
            refine z_al0 (pc' := 13) 8 rfl rfl ?_
            refine z_getf (pc' := 16) 9 rfl rfl f_Bk_18_0 (by assumption) (by rfl) ?_
            refine z_il1 (pc' := 17) 10 rfl rfl ?_
            refine z_iconst (v := nI 1) (by decide) (pc' := 18) 11 rfl rfl ?_
            first | refine z_iaddN (pc' := 19) 12 rfl rfl ?_ | refine z_iadd (pc' := 19) 12 rfl rfl ?_
            refine z_iald (pc' := 20) 13 rfl rfl (by assumption) (by omega) (by decide) ?_
            rw [he]
            first | refine z_icmp_geN (pc' := 23) 14 rfl rfl (tgt := 135) rfl (by omega) (by omega) (fun h20 => ?_) (fun h20 => ?_) | refine z_icmp_ge (pc' := 23) 14 rfl rfl (tgt := 135) rfl (fun h20 => ?_) (fun h20 => ?_)
            · exfalso; omega
            · refine z_al0 (pc' := 24) 15 rfl rfl ?_
              refine z_getf (pc' := 27) 16 rfl rfl f_Bk_23_0 (by assumption) (by rfl) ?_
              refine z_il4 (pc' := 29) 17 rfl rfl ?_
              refine z_iald (pc' := 30) 18 rfl rfl (by assumption) (by omega) (by decide) ?_
              rw [hb1]
              refine z_tableIn 19 rfl (by decide) (by decide) (off := 55) rfl (tgt := 85) rfl ?_
              refine z_il3 (pc' := 86) 40 rfl rfl ?_
              refine z_iconst (v := nI 1) (by decide) (pc' := 87) 41 rfl rfl ?_
              refine z_iand (pc' := 88) 42 rfl rfl ?_
              refine z_te (en_1 false _ hs12) ?_
              refine z_if_eq_t 43 rfl (tgt := 99) rfl rfl ?_
              refine z_il3 (pc' := 100) 50 rfl rfl ?_
              refine z_iconst (v := nI 1) (by decide) (pc' := 101) 51 rfl rfl ?_
              refine z_ishr (pc' := 102) 52 rfl rfl ?_
              refine z_te (en_s false _ hs12) ?_
              refine z_is3 rfl rfl (pc' := 103) 53 rfl rfl ?_
              refine z_goto 54 rfl (tgt := 129) rfl ?_
              first | refine z_inc4N rfl rfl (pc' := 132) 69 rfl rfl ?_ | refine z_inc4 rfl rfl rfl (pc' := 132) 69 rfl rfl ?_
              refine z_goto 70 rfl (tgt := 10) rfl ?_
              exact l_Bk_holds hb0 hq hr he he2 hf t _ (b2 :: s1) hs2 (by simpa using hok) hs12
          · rw [show evB f ((10, l, r0) :: t) (true :: b2 :: s1) = evB f t (true :: s1) from by simp [evB]]
            refine z_il4 (pc' := 12) 7 rfl rfl ?_
            refine z_al0 (pc' := 13) 8 rfl rfl ?_
            refine z_getf (pc' := 16) 9 rfl rfl f_Bk_18_0 (by assumption) (by rfl) ?_
            refine z_il1 (pc' := 17) 10 rfl rfl ?_
            refine z_iconst (v := nI 1) (by decide) (pc' := 18) 11 rfl rfl ?_
            first | refine z_iaddN (pc' := 19) 12 rfl rfl ?_ | refine z_iadd (pc' := 19) 12 rfl rfl ?_
            refine z_iald (pc' := 20) 13 rfl rfl (by assumption) (by omega) (by decide) ?_
            rw [he]
            first | refine z_icmp_geN (pc' := 23) 14 rfl rfl (tgt := 135) rfl (by omega) (by omega) (fun h20 => ?_) (fun h20 => ?_) | refine z_icmp_ge (pc' := 23) 14 rfl rfl (tgt := 135) rfl (fun h20 => ?_) (fun h20 => ?_)
            · exfalso; omega
            · refine z_al0 (pc' := 24) 15 rfl rfl ?_
              refine z_getf (pc' := 27) 16 rfl rfl f_Bk_23_0 (by assumption) (by rfl) ?_
              refine z_il4 (pc' := 29) 17 rfl rfl ?_
              refine z_iald (pc' := 30) 18 rfl rfl (by assumption) (by omega) (by decide) ?_
              rw [hb1]
              refine z_tableIn 19 rfl (by decide) (by decide) (off := 55) rfl (tgt := 85) rfl ?_
              refine z_il3 (pc' := 86) 40 rfl rfl ?_
              refine z_iconst (v := nI 1) (by decide) (pc' := 87) 41 rfl rfl ?_
              refine z_iand (pc' := 88) 42 rfl rfl ?_
              refine z_te (en_1 true _ hs12) ?_
              refine z_if_eq_f (pc' := 91) 43 rfl rfl (tgt := 99) rfl (by decide) ?_
              refine z_il3 (pc' := 92) 44 rfl rfl ?_
              refine z_iconst (v := nI 1) (by decide) (pc' := 93) 45 rfl rfl ?_
              refine z_ishr (pc' := 94) 46 rfl rfl ?_
              refine z_te (en_s true _ hs12) ?_
              refine z_iconst (v := nI 1) (by decide) (pc' := 95) 47 rfl rfl ?_
              refine z_ior (pc' := 96) 48 rfl rfl ?_
              refine z_te (en_o b2 s1 hs11) ?_
              refine z_goto 49 rfl (tgt := 102) rfl ?_
              refine z_is3 rfl rfl (pc' := 103) 53 rfl rfl ?_
              refine z_goto 54 rfl (tgt := 129) rfl ?_
              first | refine z_inc4N rfl rfl (pc' := 132) 69 rfl rfl ?_ | refine z_inc4 rfl rfl rfl (pc' := 132) 69 rfl rfl ?_
              refine z_goto 70 rfl (tgt := 10) rfl ?_
              exact l_Bk_holds hb0 hq hr he he2 hf t _ (true :: s1) hs2 (by simpa using hok) hs12
        · cases b1
          · rw [show evB f ((11, l, r0) :: t) (false :: b2 :: s1) = evB f t (false :: s1) from by simp [evB]]
            refine z_il4 (pc' := 12) 7 rfl rfl ?_
            refine z_al0 (pc' := 13) 8 rfl rfl ?_
            refine z_getf (pc' := 16) 9 rfl rfl f_Bk_18_0 (by assumption) (by rfl) ?_
            refine z_il1 (pc' := 17) 10 rfl rfl ?_
            refine z_iconst (v := nI 1) (by decide) (pc' := 18) 11 rfl rfl ?_
            first | refine z_iaddN (pc' := 19) 12 rfl rfl ?_ | refine z_iadd (pc' := 19) 12 rfl rfl ?_
            refine z_iald (pc' := 20) 13 rfl rfl (by assumption) (by omega) (by decide) ?_
            rw [he]
            first | refine z_icmp_geN (pc' := 23) 14 rfl rfl (tgt := 135) rfl (by omega) (by omega) (fun h20 => ?_) (fun h20 => ?_) | refine z_icmp_ge (pc' := 23) 14 rfl rfl (tgt := 135) rfl (fun h20 => ?_) (fun h20 => ?_)
            · exfalso; omega
            · refine z_al0 (pc' := 24) 15 rfl rfl ?_
              refine z_getf (pc' := 27) 16 rfl rfl f_Bk_23_0 (by assumption) (by rfl) ?_
              refine z_il4 (pc' := 29) 17 rfl rfl ?_
              refine z_iald (pc' := 30) 18 rfl rfl (by assumption) (by omega) (by decide) ?_
              rw [hb1]
              refine z_tableIn 19 rfl (by decide) (by decide) (off := 33) rfl (tgt := 63) rfl ?_
              refine z_il3 (pc' := 64) 25 rfl rfl ?_
              refine z_iconst (v := nI 1) (by decide) (pc' := 65) 26 rfl rfl ?_
              refine z_iand (pc' := 66) 27 rfl rfl ?_
              refine z_te (en_1 false _ hs12) ?_
              refine z_if_eq_t 28 rfl (tgt := 75) rfl rfl ?_
              refine z_il3 (pc' := 76) 33 rfl rfl ?_
              refine z_iconst (v := nI 1) (by decide) (pc' := 77) 34 rfl rfl ?_
              refine z_ishr (pc' := 78) 35 rfl rfl ?_
              refine z_te (en_s false _ hs12) ?_
              refine z_bipush (v := (-2)) (by decide) (pc' := 80) 36 rfl rfl ?_
              refine z_iand (pc' := 81) 37 rfl rfl ?_
              refine z_te (en_m b2 s1 hs11) ?_
              refine z_is3 rfl rfl (pc' := 82) 38 rfl rfl ?_
              refine z_goto 39 rfl (tgt := 129) rfl ?_
              first | refine z_inc4N rfl rfl (pc' := 132) 69 rfl rfl ?_ | refine z_inc4 rfl rfl rfl (pc' := 132) 69 rfl rfl ?_
              refine z_goto 70 rfl (tgt := 10) rfl ?_
              exact l_Bk_holds hb0 hq hr he he2 hf t _ (false :: s1) hs2 (by simpa using hok) hs12
          · rw [show evB f ((11, l, r0) :: t) (true :: b2 :: s1) = evB f t (b2 :: s1) from by simp [evB]]
            refine z_il4 (pc' := 12) 7 rfl rfl ?_
            refine z_al0 (pc' := 13) 8 rfl rfl ?_
            refine z_getf (pc' := 16) 9 rfl rfl f_Bk_18_0 (by assumption) (by rfl) ?_
            refine z_il1 (pc' := 17) 10 rfl rfl ?_
            refine z_iconst (v := nI 1) (by decide) (pc' := 18) 11 rfl rfl ?_
            first | refine z_iaddN (pc' := 19) 12 rfl rfl ?_ | refine z_iadd (pc' := 19) 12 rfl rfl ?_
            refine z_iald (pc' := 20) 13 rfl rfl (by assumption) (by omega) (by decide) ?_
            rw [he]
            first | refine z_icmp_geN (pc' := 23) 14 rfl rfl (tgt := 135) rfl (by omega) (by omega) (fun h20 => ?_) (fun h20 => ?_) | refine z_icmp_ge (pc' := 23) 14 rfl rfl (tgt := 135) rfl (fun h20 => ?_) (fun h20 => ?_)
            · exfalso; omega
            · refine z_al0 (pc' := 24) 15 rfl rfl ?_
              refine z_getf (pc' := 27) 16 rfl rfl f_Bk_23_0 (by assumption) (by rfl) ?_
              refine z_il4 (pc' := 29) 17 rfl rfl ?_
              refine z_iald (pc' := 30) 18 rfl rfl (by assumption) (by omega) (by decide) ?_
              rw [hb1]
              refine z_tableIn 19 rfl (by decide) (by decide) (off := 33) rfl (tgt := 63) rfl ?_
              refine z_il3 (pc' := 64) 25 rfl rfl ?_
              refine z_iconst (v := nI 1) (by decide) (pc' := 65) 26 rfl rfl ?_
              refine z_iand (pc' := 66) 27 rfl rfl ?_
              refine z_te (en_1 true _ hs12) ?_
              refine z_if_eq_f (pc' := 69) 28 rfl rfl (tgt := 75) rfl (by decide) ?_
              refine z_il3 (pc' := 70) 29 rfl rfl ?_
              refine z_iconst (v := nI 1) (by decide) (pc' := 71) 30 rfl rfl ?_
              refine z_ishr (pc' := 72) 31 rfl rfl ?_
              refine z_te (en_s true _ hs12) ?_
              refine z_goto 32 rfl (tgt := 81) rfl ?_
              refine z_is3 rfl rfl (pc' := 82) 38 rfl rfl ?_
              refine z_goto 39 rfl (tgt := 129) rfl ?_
              first | refine z_inc4N rfl rfl (pc' := 132) 69 rfl rfl ?_ | refine z_inc4 rfl rfl rfl (pc' := 132) 69 rfl rfl ?_
              refine z_goto 70 rfl (tgt := 10) rfl ?_
              exact l_Bk_holds hb0 hq hr he he2 hf t _ (b2 :: s1) hs2 (by simpa using hok) hs12
    · have ho21 : ¬ o < 21 := by omega
      rw [if_neg ho21] at hs2
      obtain ⟨hb2, hb3, hs2⟩ := hs2
      rw [show evB f ((o, l, r0) :: t) s = evB f t (cmB o (vl f l) (vl f r0) :: s) from by simp only [evB, if_neg (show ¬ o = 12 by omega), if_neg (show ¬ o = 11 by omega), if_neg (show ¬ o = 10 by omega)]]
      have hle := sg_le _ _ _ hs2
      refine z_il4 (pc' := 12) 7 rfl rfl ?_
      refine z_al0 (pc' := 13) 8 rfl rfl ?_
      refine z_getf (pc' := 16) 9 rfl rfl f_Bk_18_0 (by assumption) (by rfl) ?_
      refine z_il1 (pc' := 17) 10 rfl rfl ?_
      refine z_iconst (v := nI 1) (by decide) (pc' := 18) 11 rfl rfl ?_
      first | refine z_iaddN (pc' := 19) 12 rfl rfl ?_ | refine z_iadd (pc' := 19) 12 rfl rfl ?_
      refine z_iald (pc' := 20) 13 rfl rfl (by assumption) (by omega) (by decide) ?_
      rw [he]
      first | refine z_icmp_geN (pc' := 23) 14 rfl rfl (tgt := 135) rfl (by omega) (by omega) (fun h20 => ?_) (fun h20 => ?_) | refine z_icmp_ge (pc' := 23) 14 rfl rfl (tgt := 135) rfl (fun h20 => ?_) (fun h20 => ?_)
      · exfalso; omega
      · refine z_al0 (pc' := 24) 15 rfl rfl ?_
        refine z_getf (pc' := 27) 16 rfl rfl f_Bk_23_0 (by assumption) (by rfl) ?_
        refine z_il4 (pc' := 29) 17 rfl rfl ?_
        refine z_iald (pc' := 30) 18 rfl rfl (by assumption) (by omega) (by decide) ?_
        rw [hb1]
        refine z_tableOut 19 rfl (by rw [nI_toInt (by omega)]; omega) (tgt := 106) rfl ?_
        refine z_il3 (pc' := 107) 55 rfl rfl ?_
        refine z_iconst (v := nI 1) (by decide) (pc' := 108) 56 rfl rfl ?_
        refine z_ishl (pc' := 109) 57 rfl rfl ?_
        refine z_al0 (pc' := 110) 58 rfl rfl ?_
        refine z_il4 (pc' := 112) 59 rfl rfl ?_
        refine z_al2 (pc' := 113) 60 rfl rfl ?_
        refine z_callV1 (pc' := 116) 61 rfl rfl k_Bk_47 (by assumption) (c_Bk_compares hb0 hq (by omega) hb1 hb2 hb3 ho1 ho2 hol hor hf) (by decide) (Nat.le_refl _) (Nat.le_refl _) rfl rfl (Nat.le_of_ble_eq_true rfl) ?_
        first | refine z_if_eqB (pc' := 119) 62 rfl rfl (tgt := 123) rfl (fun h116 => ?_) (fun h116 => ?_) | refine z_if_eqN (pc' := 119) 62 rfl rfl (tgt := 123) rfl (by omega) (fun h116 => ?_) (fun h116 => ?_) | refine z_if_eq (pc' := 119) 62 rfl rfl (tgt := 123) rfl (fun h116 => ?_) (fun h116 => ?_)
        · refine z_iconst (v := nI 0) (by decide) (pc' := 124) 65 rfl rfl ?_
          refine z_ior (pc' := 125) 66 rfl rfl ?_
          refine z_te (show _ = nI (enc (cmB o (vl f l) (vl f r0) :: s)) from by first | (rw [h116]; exact en_p true s (by omega)) | (rw [Bool.eq_false_iff.mpr h116]; exact en_p false s (by omega))) ?_
          refine z_is3 rfl rfl (pc' := 126) 67 rfl rfl ?_
          refine z_inc4 rfl rfl (nI_inc _ 2) (pc' := 129) 68 rfl rfl ?_
          first | refine z_inc4N rfl rfl (pc' := 132) 69 rfl rfl ?_ | refine z_inc4 rfl rfl rfl (pc' := 132) 69 rfl rfl ?_
          refine z_goto 70 rfl (tgt := 10) rfl ?_
          exact l_Bk_holds hb0 hq hr he he2 hf t _ (cmB o (vl f l) (vl f r0) :: s) hs2 (by simpa using hok) (by simp; omega)
        · refine z_iconst (v := nI 1) (by decide) (pc' := 120) 63 rfl rfl ?_
          refine z_goto 64 rfl (tgt := 124) rfl ?_
          refine z_ior (pc' := 125) 66 rfl rfl ?_
          refine z_te (show _ = nI (enc (cmB o (vl f l) (vl f r0) :: s)) from by first | (rw [h116]; exact en_p true s (by omega)) | (rw [Bool.eq_false_iff.mpr h116]; exact en_p false s (by omega))) ?_
          refine z_is3 rfl rfl (pc' := 126) 67 rfl rfl ?_
          refine z_inc4 rfl rfl (nI_inc _ 2) (pc' := 129) 68 rfl rfl ?_
          first | refine z_inc4N rfl rfl (pc' := 132) 69 rfl rfl ?_ | refine z_inc4 rfl rfl rfl (pc' := 132) 69 rfl rfl ?_
          refine z_goto 70 rfl (tgt := 10) rfl ?_
          exact l_Bk_holds hb0 hq hr he he2 hf t _ (cmB o (vl f l) (vl f r0) :: s) hs2 (by simpa using hok) (by simp; omega)
