/-! ===== a course (at a): month mo, courted set cs, promised pr, faith fa, facts q ===== -/
def pcr (ν : Nat → va_E) (a mo cs : Nat) (pr fa q : Nat → Nat) : Nat → va_E := zu (zu (zu (zu ν a (.inr (4, [.int (nI mo), .ref (a + 1), .ref (a + 2), .int (nI cs), .ref (a + 3)]))) (a + 1) (.inl (0, 6, .inl (fun j => nI (pr j))))) (a + 2) (.inl (0, 6, .inl (fun j => nI (fa j))))) (a + 3) (.inl (0, 5, .inl (fun j => nI (q j))))
section PCR
variable {ν : Nat → va_E} {a mo cs : Nat} {pr fa q : Nat → Nat}
theorem pcr_0 : pcr ν a mo cs pr fa q a = .inr (4, [.int (nI mo), .ref (a + 1), .ref (a + 2), .int (nI cs), .ref (a + 3)]) := by
  unfold pcr
  rw [zu_n (by omega), zu_n (by omega), zu_n (by omega), zu_s]
theorem pcr_1 : pcr ν a mo cs pr fa q (a + 1) = .inl (0, 6, .inl (fun j => nI (pr j))) := by
  unfold pcr
  rw [zu_n (by omega), zu_n (by omega), zu_s]
theorem pcr_2 : pcr ν a mo cs pr fa q (a + 2) = .inl (0, 6, .inl (fun j => nI (fa j))) := by
  unfold pcr
  rw [zu_n (by omega), zu_s]
theorem pcr_3 : pcr ν a mo cs pr fa q (a + 3) = .inl (0, 5, .inl (fun j => nI (q j))) := by
  unfold pcr
  rw [zu_s]
theorem pcr_o {b : Nat} (h : b < a ∨ a + 3 < b) : pcr ν a mo cs pr fa q b = ν b := by
  unfold pcr
  rw [zu_n (by omega), zu_n (by omega), zu_n (by omega), zu_n (by omega)]
theorem pcr_s0 {m c : Nat} : zu (pcr ν a mo cs pr fa q) a (.inr (4, [.int (nI m), .ref (a + 1), .ref (a + 2), .int (nI c), .ref (a + 3)])) = pcr ν a m c pr fa q := by
  unfold pcr
  rw [zu_sw (a := a + 3) (b := a) (by omega), zu_sw (a := a + 2) (b := a) (by omega), zu_sw (a := a + 1) (b := a) (by omega), zu_zu]
theorem pcr_s1 {p : Nat → Nat} : zu (pcr ν a mo cs pr fa q) (a + 1) (.inl (0, 6, .inl (fun j => nI (p j)))) = pcr ν a mo cs p fa q := by
  unfold pcr
  rw [zu_sw (a := a + 3) (b := a + 1) (by omega), zu_sw (a := a + 2) (b := a + 1) (by omega), zu_zu]
theorem pcr_s2 {p : Nat → Nat} : zu (pcr ν a mo cs pr fa q) (a + 2) (.inl (0, 6, .inl (fun j => nI (p j)))) = pcr ν a mo cs pr p q := by
  unfold pcr
  rw [zu_sw (a := a + 3) (b := a + 2) (by omega), zu_zu]
theorem pcr_s3 {p : Nat → Nat} : zu (pcr ν a mo cs pr fa q) (a + 3) (.inl (0, 5, .inl (fun j => nI (p j)))) = pcr ν a mo cs pr fa p := by
  unfold pcr
  rw [zu_zu]
theorem isCo_pcr {S : Nat → Nat → Nat} {sc ch : Int32} (h : isCo ν S sc ch) (ha : a = 13 ∨ 43 ≤ a) : isCo (pcr ν a mo cs pr fa q) S sc ch := by
  obtain ⟨m5, m6, m7, m8, m9, m10, m11, m12, m22⟩ := h
  refine ⟨?_, ?_, ?_, ?_, ?_, ?_, ?_, ?_, ?_⟩ <;> rw [pcr_o (by omega)] <;> assumption
theorem isBk_pcr {b : Nat} {β : Nat → Nat → Nat} (h : isBk ν b β) (ha : b + 4 < a ∨ a + 3 < b) : isBk (pcr ν a mo cs pr fa q) b β := by
  obtain ⟨m0, m1, m2, m3, m4⟩ := h
  refine ⟨?_, ?_, ?_, ?_, ?_⟩ <;> rw [pcr_o (by omega)] <;> assumption
end PCR
/-! ===== what a month does ===== -/
/-- the rules tell what D says: of a kind, in a month, of her faith, dowry, house, number -/
def fcs (mo f dw h g : Nat) (q : Nat → Nat) : Nat → Nat := un (un (un (un (un q 0 mo) 1 f) 2 dw) 3 h) 4 g
def dzB (β : Nat → Nat → Nat) (its : Nat → zI) (D : Nat → Nat → Nat → Nat → Nat → Nat → Nat) : Prop := wfB β its ∧ (∀ k mo f dw h g q, tlN β its k (fcs mo f dw h g q) (β 0 0) 0 = D k mo f dw h g) ∧ β 3 (β 0 0) ≤ β 0 1 ∧ β 0 1 ≤ 200
def npr (pr : Nat → Nat) (w : Nat) : Nat → Bool
  | 0 => true
  | k + 1 => npr pr w k && (pr k != w)
def wbN (pr : Nat → Nat) : Nat → Nat
  | 0 => 0
  | k + 1 => wbN pr k ||| 2 ^ pr k
def fwN (S : Nat → Nat → Nat) (t g : Nat) (pr : Nat → Nat) : Nat → Nat
  | 0 => 6
  | k + 1 => if blB S k t = true ∧ npr pr k (S 0 0) = true ∧ (fwN S t g pr k = 6 ∨ gS S g (fwN S t g pr k) t < gS S g k t) then k else fwN S t g pr k
def fw (S : Nat → Nat → Nat) (t g : Nat) (pr : Nat → Nat) : Nat := fwN S t g pr (S 0 1)
def cal (S : Nat → Nat → Nat) (t g dz : Nat) (pr fa : Nat → Nat) : (Nat → Nat) × (Nat → Nat) :=
  if dz = 2 then (un pr g 6, un fa g (S 3 g)) else if dz = 1 then (if fw S t g pr = 6 then (pr, fa) else (un pr g (fw S t g pr), un fa g (S 3 g))) else (pr, fa)
theorem wbN_bit (pr : Nat → Nat) (w : Nat) : ∀ k, (wbN pr k / 2 ^ w % 2 = 0 ↔ npr pr w k = true)
  | 0 => by simp [wbN, npr]
  | k + 1 => by
    have ih := wbN_bit pr w k
    have e1 : ∀ x, (x / 2 ^ w % 2 = 0 ↔ Nat.testBit x w = false) := fun x => by rw [Nat.testBit_eq_decide_div_mod_eq]; simp
    rw [e1] at ih ⊢
    simp only [wbN, npr, Nat.testBit_or, Nat.testBit_two_pow, Bool.or_eq_false_iff, Bool.and_eq_true, ih, bne_iff_ne, ne_eq, decide_eq_false_iff_not]
theorem wbN_lt (pr : Nat → Nat) (h : ∀ j, pr j ≤ 6) : ∀ k, wbN pr k < 128
  | 0 => Nat.le_of_ble_eq_true rfl
  | k + 1 => by
    have h1 : 2 ^ pr k < 2 ^ 7 := Nat.pow_lt_pow_right (by decide) (by have := h k; omega)
    exact Nat.or_lt_two_pow (n := 7) (wbN_lt pr h k) h1
theorem fwN_le (S : Nat → Nat → Nat) (t g : Nat) (pr : Nat → Nat) : ∀ k, k ≤ 6 → fwN S t g pr k = 6 ∨ fwN S t g pr k < k
  | 0, _ => Or.inl rfl
  | k + 1, h => by
    have ih := fwN_le S t g pr k (by omega)
    unfold fwN
    split
    · exact Or.inr (by omega)
    · rcases ih with e | e
      · exact Or.inl e
      · exact Or.inr (by omega)
set_option maxHeartbeats 4000000 in
set_option maxRecDepth 100000 in
theorem c_Cr_promiseTo {G : zG} {n u : Nat} {ν : Nat → va_E} {S : Nat → Nat → Nat} {sc ch : Int32} (hco : isCo ν S sc ch) (hi : iS S) {a mo cs : Nat} {pr fa q : Nat → Nat} (ha : a = 13 ∨ 43 ≤ a) {g w : Nat} (hg : g < 6) :
    zMet G 0 M_Cr_promiseTo [.ref a, .ref 5, .int (nI g), .int (nI w)] n u (pcr ν a mo cs pr fa q) n u (zE none (pcr ν a mo cs (un pr g w) (un fa g (S 3 g)) q)) := by
  refine z_start (lv := [.ref a, .ref 5, .int (nI g), .int (nI w)]) K_Cr_promiseTo rfl rfl (Nat.le_refl _) (Nat.le_refl _) (Nat.le_of_ble_eq_true rfl) rfl ?_
  obtain ⟨m5, m6, m7, m8, m9, m10, m11, m12, m22⟩ := hco
  refine z_al0 (pc' := 1) 0 rfl rfl ?_
  refine z_getf (pc' := 4) 1 rfl rfl f_Cr_9_4 (by first | exact pcr_0 | exact pcr_1 | exact pcr_2 | exact pcr_3 | (rw [pcr_o (by omega)]; assumption)) (by rfl) ?_
  refine z_il2 (pc' := 5) 2 rfl rfl ?_
  refine z_il3 (pc' := 6) 3 rfl rfl ?_
  refine z_iast (pc' := 7) 4 rfl rfl (by first | exact pcr_0 | exact pcr_1 | exact pcr_2 | exact pcr_3 | (rw [pcr_o (by omega)]; assumption)) (by omega) (by decide) ?_
  rw [upd_n, pcr_s1]
  refine z_al0 (pc' := 8) 5 rfl rfl ?_
  refine z_getf (pc' := 11) 6 rfl rfl f_Cr_15_4 (by first | exact pcr_0 | exact pcr_1 | exact pcr_2 | exact pcr_3 | (rw [pcr_o (by omega)]; assumption)) (by rfl) ?_
  refine z_il2 (pc' := 12) 7 rfl rfl ?_
  refine z_al1 (pc' := 13) 8 rfl rfl ?_
  refine z_getr (pc' := 16) 9 rfl rfl f_Cr_36_3 (by first | exact pcr_0 | exact pcr_1 | exact pcr_2 | exact pcr_3 | (rw [pcr_o (by omega)]; assumption)) (by rfl) ?_
  refine z_il2 (pc' := 17) 10 rfl rfl ?_
  refine z_iald (pc' := 18) 11 rfl rfl (by first | exact pcr_0 | exact pcr_1 | exact pcr_2 | exact pcr_3 | (rw [pcr_o (by omega)]; assumption)) (by omega) (by decide) ?_
  refine z_iast (pc' := 19) 12 rfl rfl (by first | exact pcr_0 | exact pcr_1 | exact pcr_2 | exact pcr_3 | (rw [pcr_o (by omega)]; assumption)) (by omega) (by decide) ?_
  rw [upd_n, pcr_s2]
  exact z_return 13 rfl rfl rfl rfl (by exact ⟨rfl, rfl⟩)
def psN (pr : Nat → Nat) : Nat → Nat
  | 0 => 0
  | k + 1 => if pr k = 6 then psN pr k else psN pr k ||| 2 ^ k
def brN (pr : Nat → Nat) (w : Nat) : Nat → Nat
  | 0 => 0
  | k + 1 => if pr k = w then brN pr w k ||| 2 ^ k else brN pr w k
theorem psN_lt (pr : Nat → Nat) : ∀ k, k ≤ 6 → psN pr k < 2 ^ 6
  | 0, _ => Nat.le_of_ble_eq_true rfl
  | k + 1, h => by
    unfold psN
    have ih := psN_lt pr k (by omega)
    split
    · exact ih
    · exact Nat.or_lt_two_pow ih (Nat.pow_lt_pow_right (by decide) (by omega))
theorem brN_lt (pr : Nat → Nat) (w : Nat) : ∀ k, k ≤ 6 → brN pr w k < 2 ^ 6
  | 0, _ => Nat.le_of_ble_eq_true rfl
  | k + 1, h => by
    unfold brN
    have ih := brN_lt pr w k (by omega)
    split
    · exact Nat.or_lt_two_pow ih (Nat.pow_lt_pow_right (by decide) (by omega))
    · exact ih
set_option maxHeartbeats 4000000 in
set_option maxRecDepth 100000 in
theorem l_Cr_promisedSet {G : zG} {n u : Nat} {ν : Nat → va_E} {S : Nat → Nat → Nat} {sc ch : Int32} (hco : isCo ν S sc ch) (hi : iS S) {a mo cs : Nat} {pr fa q : Nat → Nat} (ha : a = 13 ∨ 43 ≤ a) (hp : ∀ j, pr j ≤ 6) : ∀ j k, k + j = S 0 0 →
    zW G 0 M_Cr_promisedSet 4 [.ref a, .ref 5, .int (nI (psN pr k)), .int (nI k)] [] n u (pcr ν a mo cs pr fa q) n u (zE (some (.int (nI (psN pr (S 0 0))))) (pcr ν a mo cs pr fa q))
  | 0, k, e => by
    have hi0 := hi.1
    have hco0 := hco
    obtain ⟨m5, m6, m7, m8, m9, m10, m11, m12, m22⟩ := hco
    have hpk := hp k
    obtain rfl : k = S 0 0 := by omega
    refine z_il3 (pc' := 5) 4 rfl rfl ?_
    refine z_al1 (pc' := 6) 5 rfl rfl ?_
    refine z_getf (pc' := 9) 6 rfl rfl f_Cr_41_3 (by first | exact pcr_0 | exact pcr_1 | exact pcr_2 | exact pcr_3 | (rw [pcr_o (by omega)]; assumption)) (by rfl) ?_
    first | refine z_icmp_geN (pc' := 12) 7 rfl rfl (tgt := 39) rfl (by omega) (by omega) (fun h9 => ?_) (fun h9 => ?_) | refine z_icmp_ge (pc' := 12) 7 rfl rfl (tgt := 39) rfl (fun h9 => ?_) (fun h9 => ?_)
    · refine z_il2 (pc' := 40) 24 rfl rfl ?_
      exact z_ireturn 25 rfl rfl (by first | rfl | exact zbo_nar) rfl rfl (by exact ⟨rfl, rfl⟩)
    · exfalso; omega
  | j + 1, k, e => by
    have hi0 := hi.1
    have hco0 := hco
    obtain ⟨m5, m6, m7, m8, m9, m10, m11, m12, m22⟩ := hco
    have hpk := hp k
    refine z_il3 (pc' := 5) 4 rfl rfl ?_
    refine z_al1 (pc' := 6) 5 rfl rfl ?_
    refine z_getf (pc' := 9) 6 rfl rfl f_Cr_41_3 (by first | exact pcr_0 | exact pcr_1 | exact pcr_2 | exact pcr_3 | (rw [pcr_o (by omega)]; assumption)) (by rfl) ?_
    first | refine z_icmp_geN (pc' := 12) 7 rfl rfl (tgt := 39) rfl (by omega) (by omega) (fun h9 => ?_) (fun h9 => ?_) | refine z_icmp_ge (pc' := 12) 7 rfl rfl (tgt := 39) rfl (fun h9 => ?_) (fun h9 => ?_)
    · exfalso; omega
    · refine z_il2 (pc' := 13) 8 rfl rfl ?_
      refine z_al0 (pc' := 14) 9 rfl rfl ?_
      refine z_getf (pc' := 17) 10 rfl rfl f_Cr_9_4 (by first | exact pcr_0 | exact pcr_1 | exact pcr_2 | exact pcr_3 | (rw [pcr_o (by omega)]; assumption)) (by rfl) ?_
      refine z_il3 (pc' := 18) 11 rfl rfl ?_
      refine z_iald (pc' := 19) 12 rfl rfl (by first | exact pcr_0 | exact pcr_1 | exact pcr_2 | exact pcr_3 | (rw [pcr_o (by omega)]; assumption)) (by omega) (by decide) ?_
      refine z_bipush (v := nI 6) (by decide) (pc' := 21) 13 rfl rfl ?_
      first | refine z_icmp_neN (pc' := 24) 14 rfl rfl (tgt := 28) rfl (by omega) (by omega) (fun h21 => ?_) (fun h21 => ?_) | refine z_icmp_ne (pc' := 24) 14 rfl rfl (tgt := 28) rfl (fun h21 => ?_) (fun h21 => ?_)
      · refine z_iconst (v := nI 1) (by decide) (pc' := 29) 17 rfl rfl ?_
        refine z_il3 (pc' := 30) 18 rfl rfl ?_
        refine z_ishl (pc' := 31) 19 rfl rfl ?_
        rw [nb_shl1 (by omega)]
        refine z_ior (pc' := 32) 20 rfl rfl ?_
        rw [nb_or]
        first | rw [show psN pr k ||| 0 = psN pr (k + 1) from by rw [psN, if_pos (by omega), Nat.or_zero]] | rw [show psN pr k ||| 2 ^ k = psN pr (k + 1) from by rw [psN, if_neg (by omega)]]
        refine z_is2 rfl rfl (pc' := 33) 21 rfl rfl ?_
        first | refine z_inc3N rfl rfl (pc' := 36) 22 rfl rfl ?_ | refine z_inc3 rfl rfl rfl (pc' := 36) 22 rfl rfl ?_
        refine z_goto 23 rfl (tgt := 4) rfl ?_
        exact l_Cr_promisedSet hco0 hi ha hp j (k + 1) (by omega)
      · refine z_iconst (v := nI 0) (by decide) (pc' := 25) 15 rfl rfl ?_
        refine z_goto 16 rfl (tgt := 31) rfl ?_
        refine z_ior (pc' := 32) 20 rfl rfl ?_
        rw [nb_or]
        first | rw [show psN pr k ||| 0 = psN pr (k + 1) from by rw [psN, if_pos (by omega), Nat.or_zero]] | rw [show psN pr k ||| 2 ^ k = psN pr (k + 1) from by rw [psN, if_neg (by omega)]]
        refine z_is2 rfl rfl (pc' := 33) 21 rfl rfl ?_
        first | refine z_inc3N rfl rfl (pc' := 36) 22 rfl rfl ?_ | refine z_inc3 rfl rfl rfl (pc' := 36) 22 rfl rfl ?_
        refine z_goto 23 rfl (tgt := 4) rfl ?_
        exact l_Cr_promisedSet hco0 hi ha hp j (k + 1) (by omega)
set_option maxHeartbeats 4000000 in
set_option maxRecDepth 100000 in
theorem c_Cr_promisedSet {G : zG} {n u : Nat} {ν : Nat → va_E} {S : Nat → Nat → Nat} {sc ch : Int32} (hco : isCo ν S sc ch) (hi : iS S) {a mo cs : Nat} {pr fa q : Nat → Nat} (ha : a = 13 ∨ 43 ≤ a) (hp : ∀ j, pr j ≤ 6) :
    zMet G 0 M_Cr_promisedSet [.ref a, .ref 5] n u (pcr ν a mo cs pr fa q) n u (zE (some (.int (nI (psN pr (S 0 0))))) (pcr ν a mo cs pr fa q)) := by
  refine z_start (lv := [.ref a, .ref 5, .retAddr 0, .retAddr 0]) K_Cr_promisedSet rfl rfl (Nat.le_refl _) (Nat.le_refl _) (Nat.le_of_ble_eq_true rfl) rfl ?_
  refine z_iconst (v := nI 0) (by decide) (pc' := 1) 0 rfl rfl ?_
  refine z_is2 rfl rfl (pc' := 2) 1 rfl rfl ?_
  refine z_iconst (v := nI 0) (by decide) (pc' := 3) 2 rfl rfl ?_
  refine z_is3 rfl rfl (pc' := 4) 3 rfl rfl ?_
  exact l_Cr_promisedSet hco hi ha hp (S 0 0) 0 (by omega)
set_option maxHeartbeats 4000000 in
set_option maxRecDepth 100000 in
theorem l_Cr_bridesOf {G : zG} {n u : Nat} {ν : Nat → va_E} {S : Nat → Nat → Nat} {sc ch : Int32} (hco : isCo ν S sc ch) (hi : iS S) {a mo cs : Nat} {pr fa q : Nat → Nat} (ha : a = 13 ∨ 43 ≤ a) {w : Nat} (hw : w ≤ 6) (hp : ∀ j, pr j ≤ 6) : ∀ j k, k + j = S 0 0 →
    zW G 0 M_Cr_bridesOf 5 [.ref a, .ref 5, .int (nI w), .int (nI (brN pr w k)), .int (nI k)] [] n u (pcr ν a mo cs pr fa q) n u (zE (some (.int (nI (brN pr w (S 0 0))))) (pcr ν a mo cs pr fa q))
  | 0, k, e => by
    have hi0 := hi.1
    have hco0 := hco
    obtain ⟨m5, m6, m7, m8, m9, m10, m11, m12, m22⟩ := hco
    have hpk := hp k
    obtain rfl : k = S 0 0 := by omega
    refine z_il4 (pc' := 7) 4 rfl rfl ?_
    refine z_al1 (pc' := 8) 5 rfl rfl ?_
    refine z_getf (pc' := 11) 6 rfl rfl f_Cr_41_3 (by first | exact pcr_0 | exact pcr_1 | exact pcr_2 | exact pcr_3 | (rw [pcr_o (by omega)]; assumption)) (by rfl) ?_
    first | refine z_icmp_geN (pc' := 14) 7 rfl rfl (tgt := 42) rfl (by omega) (by omega) (fun h11 => ?_) (fun h11 => ?_) | refine z_icmp_ge (pc' := 14) 7 rfl rfl (tgt := 42) rfl (fun h11 => ?_) (fun h11 => ?_)
    · refine z_il3 (pc' := 43) 24 rfl rfl ?_
      exact z_ireturn 25 rfl rfl (by first | rfl | exact zbo_nar) rfl rfl (by exact ⟨rfl, rfl⟩)
    · exfalso; omega
  | j + 1, k, e => by
    have hi0 := hi.1
    have hco0 := hco
    obtain ⟨m5, m6, m7, m8, m9, m10, m11, m12, m22⟩ := hco
    have hpk := hp k
    refine z_il4 (pc' := 7) 4 rfl rfl ?_
    refine z_al1 (pc' := 8) 5 rfl rfl ?_
    refine z_getf (pc' := 11) 6 rfl rfl f_Cr_41_3 (by first | exact pcr_0 | exact pcr_1 | exact pcr_2 | exact pcr_3 | (rw [pcr_o (by omega)]; assumption)) (by rfl) ?_
    first | refine z_icmp_geN (pc' := 14) 7 rfl rfl (tgt := 42) rfl (by omega) (by omega) (fun h11 => ?_) (fun h11 => ?_) | refine z_icmp_ge (pc' := 14) 7 rfl rfl (tgt := 42) rfl (fun h11 => ?_) (fun h11 => ?_)
    · exfalso; omega
    · refine z_il3 (pc' := 15) 8 rfl rfl ?_
      refine z_al0 (pc' := 16) 9 rfl rfl ?_
      refine z_getf (pc' := 19) 10 rfl rfl f_Cr_9_4 (by first | exact pcr_0 | exact pcr_1 | exact pcr_2 | exact pcr_3 | (rw [pcr_o (by omega)]; assumption)) (by rfl) ?_
      refine z_il4 (pc' := 21) 11 rfl rfl ?_
      refine z_iald (pc' := 22) 12 rfl rfl (by first | exact pcr_0 | exact pcr_1 | exact pcr_2 | exact pcr_3 | (rw [pcr_o (by omega)]; assumption)) (by omega) (by decide) ?_
      refine z_il2 (pc' := 23) 13 rfl rfl ?_
      first | refine z_icmp_neN (pc' := 26) 14 rfl rfl (tgt := 33) rfl (by omega) (by omega) (fun h23 => ?_) (fun h23 => ?_) | refine z_icmp_ne (pc' := 26) 14 rfl rfl (tgt := 33) rfl (fun h23 => ?_) (fun h23 => ?_)
      · refine z_iconst (v := nI 0) (by decide) (pc' := 34) 19 rfl rfl ?_
        refine z_ior (pc' := 35) 20 rfl rfl ?_
        rw [nb_or]
        first | rw [show brN pr w k ||| 0 = brN pr w (k + 1) from by rw [brN, if_neg (by omega), Nat.or_zero]] | rw [show brN pr w k ||| 2 ^ k = brN pr w (k + 1) from by rw [brN, if_pos (by omega)]]
        refine z_is3 rfl rfl (pc' := 36) 21 rfl rfl ?_
        first | refine z_inc4N rfl rfl (pc' := 39) 22 rfl rfl ?_ | refine z_inc4 rfl rfl rfl (pc' := 39) 22 rfl rfl ?_
        refine z_goto 23 rfl (tgt := 5) rfl ?_
        exact l_Cr_bridesOf hco0 hi ha hw hp j (k + 1) (by omega)
      · refine z_iconst (v := nI 1) (by decide) (pc' := 27) 15 rfl rfl ?_
        refine z_il4 (pc' := 29) 16 rfl rfl ?_
        refine z_ishl (pc' := 30) 17 rfl rfl ?_
        rw [nb_shl1 (by omega)]
        refine z_goto 18 rfl (tgt := 34) rfl ?_
        refine z_ior (pc' := 35) 20 rfl rfl ?_
        rw [nb_or]
        first | rw [show brN pr w k ||| 0 = brN pr w (k + 1) from by rw [brN, if_neg (by omega), Nat.or_zero]] | rw [show brN pr w k ||| 2 ^ k = brN pr w (k + 1) from by rw [brN, if_pos (by omega)]]
        refine z_is3 rfl rfl (pc' := 36) 21 rfl rfl ?_
        first | refine z_inc4N rfl rfl (pc' := 39) 22 rfl rfl ?_ | refine z_inc4 rfl rfl rfl (pc' := 39) 22 rfl rfl ?_
        refine z_goto 23 rfl (tgt := 5) rfl ?_
        exact l_Cr_bridesOf hco0 hi ha hw hp j (k + 1) (by omega)
set_option maxHeartbeats 4000000 in
set_option maxRecDepth 100000 in
theorem c_Cr_bridesOf {G : zG} {n u : Nat} {ν : Nat → va_E} {S : Nat → Nat → Nat} {sc ch : Int32} (hco : isCo ν S sc ch) (hi : iS S) {a mo cs : Nat} {pr fa q : Nat → Nat} (ha : a = 13 ∨ 43 ≤ a) {w : Nat} (hw : w ≤ 6) (hp : ∀ j, pr j ≤ 6) :
    zMet G 0 M_Cr_bridesOf [.ref a, .ref 5, .int (nI w)] n u (pcr ν a mo cs pr fa q) n u (zE (some (.int (nI (brN pr w (S 0 0))))) (pcr ν a mo cs pr fa q)) := by
  refine z_start (lv := [.ref a, .ref 5, .int (nI w), .retAddr 0, .retAddr 0]) K_Cr_bridesOf rfl rfl (Nat.le_refl _) (Nat.le_refl _) (Nat.le_of_ble_eq_true rfl) rfl ?_
  refine z_iconst (v := nI 0) (by decide) (pc' := 1) 0 rfl rfl ?_
  refine z_is3 rfl rfl (pc' := 2) 1 rfl rfl ?_
  refine z_iconst (v := nI 0) (by decide) (pc' := 3) 2 rfl rfl ?_
  refine z_is4 rfl rfl (pc' := 5) 3 rfl rfl ?_
  exact l_Cr_bridesOf hco hi ha hw hp (S 0 0) 0 (by omega)
set_option maxHeartbeats 4000000 in
set_option maxRecDepth 100000 in
theorem l_Cr_windsWithBrides {G : zG} {n u : Nat} {ν : Nat → va_E} {S : Nat → Nat → Nat} {sc ch : Int32} (hco : isCo ν S sc ch) (hi : iS S) {a mo cs : Nat} {pr fa q : Nat → Nat} (ha : a = 13 ∨ 43 ≤ a) (hp : ∀ j, pr j ≤ 6) : ∀ j k, k + j = S 0 0 →
    zW G 0 M_Cr_windsWithBrides 4 [.ref a, .ref 5, .int (nI (wbN pr k)), .int (nI k)] [] n u (pcr ν a mo cs pr fa q) n u (zE (some (.int (nI (wbN pr (S 0 0))))) (pcr ν a mo cs pr fa q))
  | 0, k, e => by
    have hi0 := hi.1
    have hco0 := hco
    obtain ⟨m5, m6, m7, m8, m9, m10, m11, m12, m22⟩ := hco
    have hpk := hp k
    obtain rfl : k = S 0 0 := by omega
    refine z_il3 (pc' := 5) 4 rfl rfl ?_
    refine z_al1 (pc' := 6) 5 rfl rfl ?_
    refine z_getf (pc' := 9) 6 rfl rfl f_Cr_41_3 (by first | exact pcr_0 | exact pcr_1 | exact pcr_2 | exact pcr_3 | (rw [pcr_o (by omega)]; assumption)) (by rfl) ?_
    first | refine z_icmp_geN (pc' := 12) 7 rfl rfl (tgt := 29) rfl (by omega) (by omega) (fun h9 => ?_) (fun h9 => ?_) | refine z_icmp_ge (pc' := 12) 7 rfl rfl (tgt := 29) rfl (fun h9 => ?_) (fun h9 => ?_)
    · refine z_il2 (pc' := 30) 19 rfl rfl ?_
      exact z_ireturn 20 rfl rfl (by first | rfl | exact zbo_nar) rfl rfl (by exact ⟨rfl, rfl⟩)
    · exfalso; omega
  | j + 1, k, e => by
    have hi0 := hi.1
    have hco0 := hco
    obtain ⟨m5, m6, m7, m8, m9, m10, m11, m12, m22⟩ := hco
    have hpk := hp k
    refine z_il3 (pc' := 5) 4 rfl rfl ?_
    refine z_al1 (pc' := 6) 5 rfl rfl ?_
    refine z_getf (pc' := 9) 6 rfl rfl f_Cr_41_3 (by first | exact pcr_0 | exact pcr_1 | exact pcr_2 | exact pcr_3 | (rw [pcr_o (by omega)]; assumption)) (by rfl) ?_
    first | refine z_icmp_geN (pc' := 12) 7 rfl rfl (tgt := 29) rfl (by omega) (by omega) (fun h9 => ?_) (fun h9 => ?_) | refine z_icmp_ge (pc' := 12) 7 rfl rfl (tgt := 29) rfl (fun h9 => ?_) (fun h9 => ?_)
    · exfalso; omega
    · refine z_il2 (pc' := 13) 8 rfl rfl ?_
      refine z_iconst (v := nI 1) (by decide) (pc' := 14) 9 rfl rfl ?_
      refine z_al0 (pc' := 15) 10 rfl rfl ?_
      refine z_getf (pc' := 18) 11 rfl rfl f_Cr_9_4 (by first | exact pcr_0 | exact pcr_1 | exact pcr_2 | exact pcr_3 | (rw [pcr_o (by omega)]; assumption)) (by rfl) ?_
      refine z_il3 (pc' := 19) 12 rfl rfl ?_
      refine z_iald (pc' := 20) 13 rfl rfl (by first | exact pcr_0 | exact pcr_1 | exact pcr_2 | exact pcr_3 | (rw [pcr_o (by omega)]; assumption)) (by omega) (by decide) ?_
      refine z_ishl (pc' := 21) 14 rfl rfl ?_
      rw [nb_shl1 (by omega)]
      refine z_ior (pc' := 22) 15 rfl rfl ?_
      rw [nb_or, show wbN pr k ||| 2 ^ pr k = wbN pr (k + 1) from rfl]
      refine z_is2 rfl rfl (pc' := 23) 16 rfl rfl ?_
      first | refine z_inc3N rfl rfl (pc' := 26) 17 rfl rfl ?_ | refine z_inc3 rfl rfl rfl (pc' := 26) 17 rfl rfl ?_
      refine z_goto 18 rfl (tgt := 4) rfl ?_
      exact l_Cr_windsWithBrides hco0 hi ha hp j (k + 1) (by omega)
set_option maxHeartbeats 4000000 in
set_option maxRecDepth 100000 in
theorem c_Cr_windsWithBrides {G : zG} {n u : Nat} {ν : Nat → va_E} {S : Nat → Nat → Nat} {sc ch : Int32} (hco : isCo ν S sc ch) (hi : iS S) {a mo cs : Nat} {pr fa q : Nat → Nat} (ha : a = 13 ∨ 43 ≤ a) (hp : ∀ j, pr j ≤ 6) :
    zMet G 0 M_Cr_windsWithBrides [.ref a, .ref 5] n u (pcr ν a mo cs pr fa q) n u (zE (some (.int (nI (wbN pr (S 0 0))))) (pcr ν a mo cs pr fa q)) := by
  refine z_start (lv := [.ref a, .ref 5, .retAddr 0, .retAddr 0]) K_Cr_windsWithBrides rfl rfl (Nat.le_refl _) (Nat.le_refl _) (Nat.le_of_ble_eq_true rfl) rfl ?_
  refine z_iconst (v := nI 0) (by decide) (pc' := 1) 0 rfl rfl ?_
  refine z_is2 rfl rfl (pc' := 2) 1 rfl rfl ?_
  refine z_iconst (v := nI 0) (by decide) (pc' := 3) 2 rfl rfl ?_
  refine z_is3 rfl rfl (pc' := 4) 3 rfl rfl ?_
  exact l_Cr_windsWithBrides hco hi ha hp (S 0 0) 0 (by omega)
set_option maxHeartbeats 4000000 in
set_option maxRecDepth 100000 in
theorem c_Cr_doesInCalm {G : zG} {n u : Nat} {ν : Nat → va_E} {S : Nat → Nat → Nat} {sc ch : Int32} (hco : isCo ν S sc ch) (hi : iS S) {a mo cs : Nat} {pr fa q : Nat → Nat} (ha : a = 13 ∨ 43 ≤ a) {β : Nat → Nat → Nat} {its : Nat → zI} {D : Nat → Nat → Nat → Nat → Nat → Nat → Nat} (hbk : isBk ν 17 β) (hD : dzB β its D) {g : Nat} (hg : g < 6) (hm : mo ≤ 16) (hf : ∀ j, fa j ≤ 9) :
    zMet G 3 M_Cr_doesInCalm [.ref a, .ref 5, .int (nI g)] n u (pcr ν a mo cs pr fa q) n u (zE (some (.int (nI (D (S 1 g) mo (fa g) (S 3 g) (S 2 g) g)))) (pcr ν a mo cs pr fa (fcs mo (fa g) (S 3 g) (S 2 g) g q))) := by
  refine z_start (lv := [.ref a, .ref 5, .int (nI g)]) K_Cr_doesInCalm rfl rfl (Nat.le_refl _) (Nat.le_refl _) (Nat.le_of_ble_eq_true rfl) rfl ?_
  have hbp := hbk.1
  obtain ⟨m5, m6, m7, m8, m9, m10, m11, m12, m22⟩ := hco
  have hs9 := hi.2.2.2.2.2 g
  have hf9 := hf g
  have hqq : ∀ j, j < 5 → fcs mo (fa g) (S 3 g) (S 2 g) g q j < 2 ^ 31 := by
    intro j hj
    unfold fcs un
    repeat' split
    all_goals omega
  refine z_al0 (pc' := 1) 0 rfl rfl ?_
  refine z_getf (pc' := 4) 1 rfl rfl f_Cr_20_4 (by first | exact pcr_0 | exact pcr_1 | exact pcr_2 | exact pcr_3 | (rw [pcr_o (by omega)]; assumption)) (by rfl) ?_
  refine z_iconst (v := nI 0) (by decide) (pc' := 5) 2 rfl rfl ?_
  refine z_al0 (pc' := 6) 3 rfl rfl ?_
  refine z_getf (pc' := 9) 4 rfl rfl f_Cr_23_4 (by first | exact pcr_0 | exact pcr_1 | exact pcr_2 | exact pcr_3 | (rw [pcr_o (by omega)]; assumption)) (by rfl) ?_
  refine z_iast (pc' := 10) 5 rfl rfl (by first | exact pcr_0 | exact pcr_1 | exact pcr_2 | exact pcr_3 | (rw [pcr_o (by omega)]; assumption)) (by omega) (by decide) ?_
  rw [upd_n, pcr_s3]
  refine z_al0 (pc' := 11) 6 rfl rfl ?_
  refine z_getf (pc' := 14) 7 rfl rfl f_Cr_20_4 (by first | exact pcr_0 | exact pcr_1 | exact pcr_2 | exact pcr_3 | (rw [pcr_o (by omega)]; assumption)) (by rfl) ?_
  refine z_iconst (v := nI 1) (by decide) (pc' := 15) 8 rfl rfl ?_
  refine z_al0 (pc' := 16) 9 rfl rfl ?_
  refine z_getf (pc' := 19) 10 rfl rfl f_Cr_15_4 (by first | exact pcr_0 | exact pcr_1 | exact pcr_2 | exact pcr_3 | (rw [pcr_o (by omega)]; assumption)) (by rfl) ?_
  refine z_il2 (pc' := 20) 11 rfl rfl ?_
  refine z_iald (pc' := 21) 12 rfl rfl (by first | exact pcr_0 | exact pcr_1 | exact pcr_2 | exact pcr_3 | (rw [pcr_o (by omega)]; assumption)) (by omega) (by decide) ?_
  refine z_iast (pc' := 22) 13 rfl rfl (by first | exact pcr_0 | exact pcr_1 | exact pcr_2 | exact pcr_3 | (rw [pcr_o (by omega)]; assumption)) (by omega) (by decide) ?_
  rw [upd_n, pcr_s3]
  refine z_al0 (pc' := 23) 14 rfl rfl ?_
  refine z_getf (pc' := 26) 15 rfl rfl f_Cr_20_4 (by first | exact pcr_0 | exact pcr_1 | exact pcr_2 | exact pcr_3 | (rw [pcr_o (by omega)]; assumption)) (by rfl) ?_
  refine z_iconst (v := nI 2) (by decide) (pc' := 27) 16 rfl rfl ?_
  refine z_al1 (pc' := 28) 17 rfl rfl ?_
  refine z_getr (pc' := 31) 18 rfl rfl f_Cr_36_3 (by first | exact pcr_0 | exact pcr_1 | exact pcr_2 | exact pcr_3 | (rw [pcr_o (by omega)]; assumption)) (by rfl) ?_
  refine z_il2 (pc' := 32) 19 rfl rfl ?_
  refine z_iald (pc' := 33) 20 rfl rfl (by first | exact pcr_0 | exact pcr_1 | exact pcr_2 | exact pcr_3 | (rw [pcr_o (by omega)]; assumption)) (by omega) (by decide) ?_
  refine z_iast (pc' := 34) 21 rfl rfl (by first | exact pcr_0 | exact pcr_1 | exact pcr_2 | exact pcr_3 | (rw [pcr_o (by omega)]; assumption)) (by omega) (by decide) ?_
  rw [upd_n, pcr_s3]
  refine z_al0 (pc' := 35) 22 rfl rfl ?_
  refine z_getf (pc' := 38) 23 rfl rfl f_Cr_20_4 (by first | exact pcr_0 | exact pcr_1 | exact pcr_2 | exact pcr_3 | (rw [pcr_o (by omega)]; assumption)) (by rfl) ?_
  refine z_iconst (v := nI 3) (by decide) (pc' := 39) 24 rfl rfl ?_
  refine z_al1 (pc' := 40) 25 rfl rfl ?_
  refine z_getr (pc' := 43) 26 rfl rfl f_Cr_44_3 (by first | exact pcr_0 | exact pcr_1 | exact pcr_2 | exact pcr_3 | (rw [pcr_o (by omega)]; assumption)) (by rfl) ?_
  refine z_il2 (pc' := 44) 27 rfl rfl ?_
  refine z_iald (pc' := 45) 28 rfl rfl (by first | exact pcr_0 | exact pcr_1 | exact pcr_2 | exact pcr_3 | (rw [pcr_o (by omega)]; assumption)) (by omega) (by decide) ?_
  refine z_iast (pc' := 46) 29 rfl rfl (by first | exact pcr_0 | exact pcr_1 | exact pcr_2 | exact pcr_3 | (rw [pcr_o (by omega)]; assumption)) (by omega) (by decide) ?_
  rw [upd_n, pcr_s3]
  refine z_al0 (pc' := 47) 30 rfl rfl ?_
  refine z_getf (pc' := 50) 31 rfl rfl f_Cr_20_4 (by first | exact pcr_0 | exact pcr_1 | exact pcr_2 | exact pcr_3 | (rw [pcr_o (by omega)]; assumption)) (by rfl) ?_
  refine z_iconst (v := nI 4) (by decide) (pc' := 51) 32 rfl rfl ?_
  refine z_il2 (pc' := 52) 33 rfl rfl ?_
  refine z_iast (pc' := 53) 34 rfl rfl (by first | exact pcr_0 | exact pcr_1 | exact pcr_2 | exact pcr_3 | (rw [pcr_o (by omega)]; assumption)) (by omega) (by decide) ?_
  rw [upd_n, pcr_s3, show un (un (un (un (un q 0 mo) 1 (fa g)) 2 (S 3 g)) 3 (S 2 g)) 4 g = fcs mo (fa g) (S 3 g) (S 2 g) g q from rfl]
  refine z_al1 (pc' := 54) 35 rfl rfl ?_
  refine z_getr (pc' := 57) 36 rfl rfl f_Cr_47_3 (by first | exact pcr_0 | exact pcr_1 | exact pcr_2 | exact pcr_3 | (rw [pcr_o (by omega)]; assumption)) (by rfl) ?_
  refine z_al1 (pc' := 58) 37 rfl rfl ?_
  refine z_getr (pc' := 61) 38 rfl rfl f_Cr_51_3 (by first | exact pcr_0 | exact pcr_1 | exact pcr_2 | exact pcr_3 | (rw [pcr_o (by omega)]; assumption)) (by rfl) ?_
  refine z_il2 (pc' := 62) 39 rfl rfl ?_
  refine z_iald (pc' := 63) 40 rfl rfl (by first | exact pcr_0 | exact pcr_1 | exact pcr_2 | exact pcr_3 | (rw [pcr_o (by omega)]; assumption)) (by omega) (by decide) ?_
  refine z_al0 (pc' := 64) 41 rfl rfl ?_
  refine z_getf (pc' := 67) 42 rfl rfl f_Cr_20_4 (by first | exact pcr_0 | exact pcr_1 | exact pcr_2 | exact pcr_3 | (rw [pcr_o (by omega)]; assumption)) (by rfl) ?_
  refine z_callV1 (pc' := 70) 43 rfl rfl k_Cr_54 (by first | exact pcr_0 | exact pcr_1 | exact pcr_2 | exact pcr_3 | (rw [pcr_o (by omega)]; assumption)) (c_Bk_tells (isBk_pcr hbk (by omega)) pcr_3 hqq (by omega) hD.1) (by decide) (Nat.le_refl _) (Nat.le_refl _) rfl rfl (Nat.le_of_ble_eq_true rfl) ?_
  exact z_ireturn 44 rfl rfl (by first | rfl | exact zbo_nar) rfl rfl (by rw [hD.2.1]; exact ⟨rfl, rfl⟩)
