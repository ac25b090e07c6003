/-! ===== sheets ===== -/
abbrev zτ : Type := (Nat → Nat) × (Nat → Nat) × (Nat → Int32)
def iT (τ : zτ) : Prop := ∀ j, τ.1 j ≤ 5 ∧ τ.2.1 j ≤ 40
def isSh (μ : Nat → va_E) (τ : zτ) : Prop := μ 81 = .inl (0, 4, .inl (fun j => hdI (τ.1 j))) ∧ μ 82 = .inl (0, 4, .inl (fun j => nI (τ.2.1 j))) ∧ μ 83 = .inl (0, 160, .inl τ.2.2) ∧ iT τ
def zrN (f : Nat → Int32) (o k : Nat) : Nat → Int32 := fun j => if o ≤ j ∧ j < o + k then 0 else f j
theorem zrN_0 {f : Nat → Int32} {o : Nat} : zrN f o 0 = f := funext fun j => if_neg (by omega)
theorem zrN_u {f : Nat → Int32} {o k : Nat} : upd (zrN f o k) (o + k) (nI 0) = zrN f o (k + 1) := by
  funext i
  by_cases h : i = o + k
  · subst h
    rw [upd_at]
    unfold zrN
    rw [if_pos (by omega)]
    rfl
  · rw [upd_no h]
    unfold zrN
    by_cases h2 : o ≤ i ∧ i < o + k
    · rw [if_pos h2, if_pos (by omega)]
    · rw [if_neg h2, if_neg (by omega)]
def pSh (τ : zτ) (x so sz : Nat) : zτ := (un τ.1 x so, un τ.2.1 x sz, zrN τ.2.2 (x * 40) sz)
def f_sheet (τ : zτ) (x y v : Int32) : Int32 × zτ :=
  if (nI 0 ≤ x ∧ x ≤ nI 3) ∧ (-1 ≤ y ∧ y ≤ nI 4) then (if y = -1 then (nI 1, pSh τ (tN x) 0 0) else if v ≤ nI 40 then (if 0 ≤ v then (nI 1, pSh τ (tN x) (tN y + 1) (tN v)) else (-14, τ)) else (-1, τ)) else (-1, τ)
def nar (so : Nat) (v : Int32) : Int32 := if so = 1 then v.toInt8.toInt32 else if so = 2 then v.toInt16.toInt32 else if so = 5 then (if v = 0 then nI 0 else nI 1) else v
def inS (τ : zτ) (sh : Nat) (i : Int32) : Prop := 0 ≤ i ∧ i < nI (τ.2.1 sh)
def f_write (τ : zτ) (x i v : Int32) : Int32 × zτ :=
  if nI 0 ≤ x ∧ x ≤ nI 3 then (if τ.1 (tN x) = 0 then (-11, τ) else if 0 ≤ i ∧ i < nI (τ.2.1 (tN x)) then (nI 1, (τ.1, τ.2.1, upd τ.2.2 (tN x * 40 + tN i) (nar (τ.1 (tN x)) v))) else (-12, τ)) else (-1, τ)
def rfS (τ : zτ) (x so : Nat) : Int32 := if τ.1 x = 0 then -11 else if τ.1 x = so then nI 0 else -13
def f_item (τ : zτ) (x y i : Int32) : Int32 :=
  if (nI 0 ≤ x ∧ x ≤ nI 3) ∧ (nI 0 ≤ y ∧ y ≤ nI 4) then (if τ.1 (tN x) = 0 then -11 else if τ.1 (tN x) = tN y + 1 then (if 0 ≤ i ∧ i < nI (τ.2.1 (tN x)) then τ.2.2 (tN x * 40 + tN i) else -12) else -13) else -1
/-- months by the items of a sheet -/
def gaA (S : Nat → Nat → Nat) (D : zD6) (τ : zτ) (sh : Nat) (i : Int32) : Nat → Nat → Nat → zT3 → Int32 → Int32 × zT3 × Int32
  | 0, _, acc, t, sc => (nI acc, t, sc)
  | c + 1, k, acc, t, sc => if 0 ≤ i + nI k ∧ i + nI k < nI (τ.2.1 sh) then (if (0 ≤ τ.2.2 (sh * 40 + tN (i + nI k)) ∧ τ.2.2 (sh * 40 + tN (i + nI k)) ≤ nI (S 0 0)) ∧ t.1 < S 0 3 then gaA S D τ sh i c (k + 1) (acc + wor S D (tN (τ.2.2 (sh * 40 + tN (i + nI k)))) t) (stp S D (tN (τ.2.2 (sh * 40 + tN (i + nI k)))) t) (sc + nI (wor S D (tN (τ.2.2 (sh * 40 + tN (i + nI k)))) t)) else gaA S D τ sh i c (k + 1) acc t sc) else (-12, t, sc)
def wbA (S : Nat → Nat → Nat) (D : zD6) (τ : zτ) (sh : Nat) (i : Int32) : Nat → Nat → Nat → zT3 → Int32
  | 0, _, acc, _ => nI acc
  | c + 1, k, acc, t => if 0 ≤ i + nI k ∧ i + nI k < nI (τ.2.1 sh) then (if (0 ≤ τ.2.2 (sh * 40 + tN (i + nI k)) ∧ τ.2.2 (sh * 40 + tN (i + nI k)) ≤ nI (S 0 0)) ∧ t.1 < S 0 3 then wbA S D τ sh i c (k + 1) (acc + wor S D (tN (τ.2.2 (sh * 40 + tN (i + nI k)))) t) (stp S D (tN (τ.2.2 (sh * 40 + tN (i + nI k)))) t) else -4) else -12
def f_goAll (τ : zτ) : zκ → Int32 → Int32 → Int32 → Int32 × zκ
  | (S, mo, pr, fa, sc, ch, rc, D), x, i, v => if (nI 0 ≤ x ∧ x ≤ nI 3) ∧ (nI 0 ≤ v ∧ v ≤ nI 20) then (if rfS τ (tN x) 1 = nI 0 then ((gaA S D τ (tN x) i (tN v) 0 0 (mo, pr, fa) sc).1, (S, (gaA S D τ (tN x) i (tN v) 0 0 (mo, pr, fa) sc).2.1.1, (gaA S D τ (tN x) i (tN v) 0 0 (mo, pr, fa) sc).2.1.2.1, (gaA S D τ (tN x) i (tN v) 0 0 (mo, pr, fa) sc).2.1.2.2, (gaA S D τ (tN x) i (tN v) 0 0 (mo, pr, fa) sc).2.2, ch, rc, D)) else (rfS τ (tN x) 1, (S, mo, pr, fa, sc, ch, rc, D))) else (-1, (S, mo, pr, fa, sc, ch, rc, D))
def f_wouldBe (τ : zτ) : zκ → Int32 → Int32 → Int32 → Int32
  | (S, mo, pr, fa, _, _, _, D), x, i, v => if (nI 0 ≤ x ∧ x ≤ nI 3) ∧ (nI 0 ≤ v ∧ v ≤ nI 20) then (if rfS τ (tN x) 1 = nI 0 then wbA S D τ (tN x) i (tN v) 0 0 (mo, pr, fa) else rfS τ (tN x) 1) else -1
theorem add_ix {a m k : Nat} {i : Int32} (h : i + nI k = nI m) : nI a + i + nI k = nI (a + m) := by rw [Int32.add_assoc, h, nI_add]
theorem hd_m1 {s : Nat} (h : s ≤ 5) : hdI s = -1 ↔ s = 0 := by
  rw [← Int32.toInt_inj, hdI, pk_sub_toInt (by omega) (by decide)]
  show (s : Int) - 1 = -1 ↔ _
  omega
theorem hd_lt {s : Nat} (h : s ≤ 5) : hdI s < 0 ↔ s = 0 := by
  rw [Int32.lt_iff_toInt_lt, hdI, pk_sub_toInt (by omega) (by decide)]
  show (s : Int) - 1 < 0 ↔ _
  omega
theorem hd_eq {s k : Nat} (h : s ≤ 5) (hk : k ≤ 5) : hdI s = nI k ↔ s = k + 1 := by
  rw [← Int32.toInt_inj, hdI, pk_sub_toInt (by omega) (by decide), nI_toInt (by omega)]
  omega
theorem hd_y {y : Int32} (h : -1 ≤ y ∧ y ≤ nI 4) : ∃ s, s ≤ 5 ∧ y = hdI s := by
  by_cases e : y = -1
  · exact ⟨0, by decide, e⟩
  · have h1 := h.1
    have h2 := h.2
    rw [Int32.le_iff_toInt_le] at h1 h2
    have h3 : y.toInt ≠ -1 := fun z => e (Int32.toInt_inj.mp z)
    have h1 : -1 ≤ y.toInt := h1
    have h0 : ¬ y < 0 := by
      rw [Int32.lt_iff_toInt_lt]
      show ¬ y.toInt < 0
      omega
    obtain ⟨j, hj, ej⟩ := nI_of h0
    rw [ej, nI_toInt hj, nI_toInt (by decide)] at h2
    exact ⟨j + 1, by omega, by rw [ej, hdI_s]⟩
def psh (ν : Nat → va_E) (τ : zτ) : Nat → va_E := zu (zu (zu ν 81 (.inl (0, 4, .inl (fun j => hdI (τ.1 j))))) 82 (.inl (0, 4, .inl (fun j => nI (τ.2.1 j))))) 83 (.inl (0, 160, .inl τ.2.2))
section PSH
variable {ν : Nat → va_E} {a b : Nat → Nat} {c : Nat → Int32}
theorem psh_81 : psh ν (a, b, c) 81 = .inl (0, 4, .inl (fun j => hdI (a j))) := by
  unfold psh
  rw [zu_n (by decide), zu_n (by decide), zu_s]
theorem psh_82 : psh ν (a, b, c) 82 = .inl (0, 4, .inl (fun j => nI (b j))) := by
  unfold psh
  rw [zu_n (by decide), zu_s]
theorem psh_83 : psh ν (a, b, c) 83 = .inl (0, 160, .inl c) := zu_s
theorem psh_o {i : Nat} (h : i < 81 ∨ 83 < i) : psh ν (a, b, c) i = ν i := by
  unfold psh
  rw [zu_n (by omega), zu_n (by omega), zu_n (by omega)]
theorem psh_id {τ : zτ} (h : isSh ν τ) : psh ν τ = ν := by
  unfold psh
  rw [zu_id h.1, zu_id h.2.1, zu_id h.2.2.1]
theorem psh_s81 {x s : Nat} : zu (psh ν (a, b, c)) 81 (.inl (0, 4, .inl (upd (fun j => hdI (a j)) x (hdI s)))) = psh ν (un a x s, b, c) := by
  unfold psh
  rw [zu_sw (a := 83) (b := 81) (by decide), zu_sw (a := 82) (b := 81) (by decide), zu_zu]
  have e : upd (fun j => hdI (a j)) x (hdI s) = fun j => hdI ((un a x s) j) := by
    funext j
    by_cases h : j = x
    · subst h; rw [upd_at, un_s]
    · rw [upd_no h, un_n h]
  rw [e]
theorem psh_s82 {x s : Nat} : zu (psh ν (a, b, c)) 82 (.inl (0, 4, .inl (upd (fun j => nI (b j)) x (nI s)))) = psh ν (a, un b x s, c) := by
  unfold psh
  rw [zu_sw (a := 83) (b := 82) (by decide), zu_zu]
  have e : upd (fun j => nI (b j)) x (nI s) = fun j => nI ((un b x s) j) := by
    funext j
    by_cases h : j = x
    · subst h; rw [upd_at, un_s]
    · rw [upd_no h, un_n h]
  rw [e]
theorem psh_s83 {f : Nat → Int32} : zu (psh ν (a, b, c)) 83 (.inl (0, 160, .inl f)) = psh ν (a, b, f) := by
  unfold psh
  rw [zu_zu]
end PSH
/-- a call that touches the sheets alone -/
def cKs (μ : Nat → va_E) (p : Int32 × zτ) : zP := fun r μ' => r = some (.int p.1) ∧ isSh μ' p.2 ∧ ∀ i, (i < 81 ∨ 83 < i) → μ' i = μ i
theorem cKs_of {μ : Nat → va_E} {r : Int32} {a b : Nat → Nat} {c : Nat → Int32} (h : iT (a, b, c)) : cKs μ (r, (a, b, c)) (some (.int r)) (psh μ (a, b, c)) := ⟨rfl, ⟨psh_81, psh_82, psh_83, h⟩, fun i hi => psh_o hi⟩
theorem iT_u {a b : Nat → Nat} {c c' : Nat → Int32} (h : iT (a, b, c)) {x s z : Nat} (hs : s ≤ 5) (hz : z ≤ 40) : iT (un a x s, un b x z, c') := fun j => by
  have := h j
  show un a x s j ≤ 5 ∧ un b x z j ≤ 40
  unfold un
  split <;> omega
set_option maxHeartbeats 4000000 in
set_option maxRecDepth 100000 in
theorem c_Wb_isSheet {G : zG} {n u : Nat} {μ : Nat → va_E} (x : Int32) : zMet G 1 M_Wb_isSheet [.int x] n u μ n u (zE (some (.int (zbo (nI 0 ≤ x ∧ x ≤ nI 3)))) μ) := by
  refine z_start (lv := [.int x]) K_Wb_isSheet rfl rfl (Nat.le_refl _) (Nat.le_refl _) (Nat.le_of_ble_eq_true rfl) rfl ?_
  refine z_il0 (pc' := 1) 0 rfl rfl ?_
  refine z_iconst (v := nI 0) (by decide) (pc' := 2) 1 rfl rfl ?_
  refine z_iconst (v := nI 3) (by decide) (pc' := 3) 2 rfl rfl ?_
  refine z_callS1 (pc' := 6) 3 rfl rfl k_Wb_72 (c_Wb_within _ _ _) (by decide) (Nat.le_refl _) (Nat.le_refl _) rfl rfl (Nat.le_of_ble_eq_true rfl) ?_
  exact z_ireturn 4 rfl rfl (by first | rfl | exact zbo_nar) rfl rfl (by exact ⟨rfl, rfl⟩)
set_option maxHeartbeats 4000000 in
set_option maxRecDepth 100000 in
theorem c_Wb_isShelf {G : zG} {n u : Nat} {μ : Nat → va_E} (x : Int32) : zMet G 1 M_Wb_isShelf [.int x] n u μ n u (zE (some (.int (zbo (nI 0 ≤ x ∧ x ≤ nI 3)))) μ) := by
  refine z_start (lv := [.int x]) K_Wb_isShelf rfl rfl (Nat.le_refl _) (Nat.le_refl _) (Nat.le_of_ble_eq_true rfl) rfl ?_
  refine z_il0 (pc' := 1) 0 rfl rfl ?_
  refine z_iconst (v := nI 0) (by decide) (pc' := 2) 1 rfl rfl ?_
  refine z_iconst (v := nI 3) (by decide) (pc' := 3) 2 rfl rfl ?_
  refine z_callS1 (pc' := 6) 3 rfl rfl k_Wb_72 (c_Wb_within _ _ _) (by decide) (Nat.le_refl _) (Nat.le_refl _) rfl rfl (Nat.le_of_ble_eq_true rfl) ?_
  exact z_ireturn 4 rfl rfl (by first | rfl | exact zbo_nar) rfl rfl (by exact ⟨rfl, rfl⟩)
set_option maxHeartbeats 4000000 in
set_option maxRecDepth 100000 in
theorem l_Wb_sheet {G : zG} {n u : Nat} {Φ : zP} {μ : Nat → va_E} {a b : Nat → Nat} {c : Nat → Int32} {kp : Int32} {ac : Value} (hob : isOb μ kp ac) {x1 N : Nat} (hx1 : x1 ≤ 3) (hN : N ≤ 40) {y0 z0 : Value} (K : ∀ i', zW G 2 M_Wb_sheet 91 [.ref 4, .int (nI x1), y0, z0, .int (nI N), i'] [] n u (psh μ (a, b, zrN c (x1 * 40) N)) n u Φ) : ∀ j k, k + j = N →
    zW G 2 M_Wb_sheet 65 [.ref 4, .int (nI x1), y0, z0, .int (nI N), .int (nI k)] [] n u (psh μ (a, b, zrN c (x1 * 40) k)) n u Φ
  | 0, k, e => by
    obtain rfl : k = N := by omega
    unfold isOb at hob
    refine z_il5 (pc' := 67) 38 rfl rfl ?_
    refine z_il4 (pc' := 69) 39 rfl rfl ?_
    first | refine z_icmp_geN (pc' := 72) 40 rfl rfl (tgt := 91) rfl (by omega) (by omega) (fun h69 => ?_) (fun h69 => ?_) | refine z_icmp_ge (pc' := 72) 40 rfl rfl (tgt := 91) rfl (fun h69 => ?_) (fun h69 => ?_)
    · exact K _
    · exfalso; omega
  | j + 1, k, e => by
    have hob0 := hob
    unfold isOb at hob
    refine z_il5 (pc' := 67) 38 rfl rfl ?_
    refine z_il4 (pc' := 69) 39 rfl rfl ?_
    first | refine z_icmp_geN (pc' := 72) 40 rfl rfl (tgt := 91) rfl (by omega) (by omega) (fun h69 => ?_) (fun h69 => ?_) | refine z_icmp_ge (pc' := 72) 40 rfl rfl (tgt := 91) rfl (fun h69 => ?_) (fun h69 => ?_)
    · exfalso; omega
    · refine z_al0 (pc' := 73) 41 rfl rfl ?_
      refine z_getf (pc' := 76) 42 rfl rfl f_Wb_54_11 (by first | exact psh_81 | exact psh_82 | exact psh_83 | (rw [psh_o (by decide)]; assumption)) (by rfl) ?_
      refine z_il1 (pc' := 77) 43 rfl rfl ?_
      refine z_bipush (v := nI 40) (by decide) (pc' := 79) 44 rfl rfl ?_
      first | refine z_imulN (pc' := 80) 45 rfl rfl ?_ | refine z_imul (pc' := 80) 45 rfl rfl ?_
      refine z_il5 (pc' := 82) 46 rfl rfl ?_
      first | refine z_iaddN (pc' := 83) 47 rfl rfl ?_ | refine z_iadd (pc' := 83) 47 rfl rfl ?_
      refine z_iconst (v := nI 0) (by decide) (pc' := 84) 48 rfl rfl ?_
      refine z_iast (pc' := 85) 49 rfl rfl (by first | exact psh_81 | exact psh_82 | exact psh_83 | (rw [psh_o (by decide)]; assumption)) (by omega) (by decide) ?_
      rw [zrN_u, psh_s83]
      first | refine z_inc5N rfl rfl (pc' := 88) 50 rfl rfl ?_ | refine z_inc5 rfl rfl rfl (pc' := 88) 50 rfl rfl ?_
      refine z_goto 51 rfl (tgt := 65) rfl ?_
      exact l_Wb_sheet hob0 hx1 hN K j (k + 1) (by omega)
theorem hd_tN {s : Nat} (h0 : s ≠ 0) (h5 : s ≤ 5) : tN (hdI s) = s - 1 := by
  obtain ⟨k, rfl⟩ : ∃ k, s = k + 1 := ⟨s - 1, by omega⟩
  rw [hdI_s, tN_n (by omega)]
  omega
set_option maxHeartbeats 4000000 in
set_option maxRecDepth 100000 in
theorem c_Wb_sheet {G : zG} {n u : Nat} {μ : Nat → va_E} {τ : zτ} {kp : Int32} {ac : Value} (h : isSh μ τ) (hob : isOb μ kp ac) (x y v : Int32) :
    zMet G 2 M_Wb_sheet [.ref 4, .int x, .int y, .int v] n u μ n u (cKs μ (f_sheet τ x y v)) := by
  obtain ⟨a, b, c⟩ := τ
  have hsh := h
  have hT : iT (a, b, c) := h.2.2.2
  refine z_start (lv := [.ref 4, .int x, .int y, .int v, .retAddr 0, .retAddr 0]) K_Wb_sheet rfl rfl (Nat.le_refl _) (Nat.le_refl _) (Nat.le_of_ble_eq_true rfl) rfl ?_
  unfold isOb at hob
  refine z_mu (psh_id h).symm ?_
  refine z_il1 (pc' := 1) 0 rfl rfl ?_
  refine z_callS1 (pc' := 4) 1 rfl rfl k_Wb_272 (c_Wb_isSheet _) (by decide) (Nat.le_refl _) (Nat.le_refl _) rfl rfl (Nat.le_of_ble_eq_true rfl) ?_
  first | refine z_if_eqB (pc' := 7) 2 rfl rfl (tgt := 16) rfl (fun h4 => ?_) (fun h4 => ?_) | refine z_if_eqN (pc' := 7) 2 rfl rfl (tgt := 16) rfl (by omega) (fun h4 => ?_) (fun h4 => ?_) | refine z_if_eq (pc' := 7) 2 rfl rfl (tgt := 16) rfl (fun h4 => ?_) (fun h4 => ?_)
  · refine z_iconst (v := (-1)) (by decide) (pc' := 17) 8 rfl rfl ?_
    exact z_ireturn 9 rfl rfl (by first | rfl | exact zbo_nar) rfl rfl (by show cKs μ _ _ _; rw [f_sheet, if_neg (fun z => h4 z.1)]; exact cKs_of (hT))
  · refine z_il2 (pc' := 8) 3 rfl rfl ?_
    refine z_iconst (v := (-1)) (by decide) (pc' := 9) 4 rfl rfl ?_
    refine z_iconst (v := nI 4) (by decide) (pc' := 10) 5 rfl rfl ?_
    refine z_callS1 (pc' := 13) 6 rfl rfl k_Wb_72 (c_Wb_within _ _ _) (by decide) (Nat.le_refl _) (Nat.le_refl _) rfl rfl (Nat.le_of_ble_eq_true rfl) ?_
    first | refine z_if_neB (pc' := 16) 7 rfl rfl (tgt := 18) rfl (fun h13 => ?_) (fun h13 => ?_) | refine z_if_neN (pc' := 16) 7 rfl rfl (tgt := 18) rfl (by omega) (fun h13 => ?_) (fun h13 => ?_) | refine z_if_ne (pc' := 16) 7 rfl rfl (tgt := 18) rfl (fun h13 => ?_) (fun h13 => ?_)
    · obtain ⟨x1, hx0, hx1, rfl⟩ := z_wi h4 (by decide) (by decide)
      obtain ⟨s1, hs1, rfl⟩ := hd_y h13
      refine z_il2 (pc' := 19) 10 rfl rfl ?_
      refine z_iconst (v := (-1)) (by decide) (pc' := 20) 11 rfl rfl ?_
      first | refine z_icmp_ne (pc' := 23) 12 rfl rfl (tgt := 27) rfl (fun h20 => ?_) (fun h20 => ?_)
      · refine z_il3 (pc' := 28) 15 rfl rfl ?_
        refine z_is4 rfl rfl (pc' := 30) 16 rfl rfl ?_
        refine z_il4 (pc' := 32) 17 rfl rfl ?_
        refine z_bipush (v := nI 40) (by decide) (pc' := 34) 18 rfl rfl ?_
        first | refine z_icmp_le (pc' := 37) 19 rfl rfl (tgt := 39) rfl (fun h34 => ?_) (fun h34 => ?_)
        · refine z_il4 (pc' := 41) 22 rfl rfl ?_
          first | refine z_if_ge (pc' := 44) 23 rfl rfl (tgt := 47) rfl (fun h41 => ?_) (fun h41 => ?_)
          · obtain ⟨z9, hz9, rfl⟩ : ∃ z9, z9 ≤ 40 ∧ v = nI z9 := by
              obtain ⟨z9, _, q1, q2⟩ := z_wi (a := 0) (b := 40) ⟨h41, h34⟩ (by decide) (by decide)
              exact ⟨z9, q1, q2⟩
            have hs0 : s1 ≠ 0 := fun z => h20 ((hd_m1 hs1).mpr z)
            refine z_al0 (pc' := 48) 26 rfl rfl ?_
            refine z_getf (pc' := 51) 27 rfl rfl f_Wb_47_11 (by first | exact psh_81 | exact psh_82 | exact psh_83 | (rw [psh_o (by decide)]; assumption)) (by rfl) ?_
            refine z_il1 (pc' := 52) 28 rfl rfl ?_
            refine z_il2 (pc' := 53) 29 rfl rfl ?_
            refine z_iast (pc' := 54) 30 rfl rfl (by first | exact psh_81 | exact psh_82 | exact psh_83 | (rw [psh_o (by decide)]; assumption)) (by omega) (by decide) ?_
            rw [psh_s81]
            refine z_al0 (pc' := 55) 31 rfl rfl ?_
            refine z_getf (pc' := 58) 32 rfl rfl f_Wb_51_11 (by first | exact psh_81 | exact psh_82 | exact psh_83 | (rw [psh_o (by decide)]; assumption)) (by rfl) ?_
            refine z_il1 (pc' := 59) 33 rfl rfl ?_
            refine z_il4 (pc' := 61) 34 rfl rfl ?_
            refine z_iast (pc' := 62) 35 rfl rfl (by first | exact psh_81 | exact psh_82 | exact psh_83 | (rw [psh_o (by decide)]; assumption)) (by omega) (by decide) ?_
            rw [psh_s82]
            refine z_iconst (v := nI 0) (by decide) (pc' := 63) 36 rfl rfl ?_
            refine z_is5 rfl rfl (pc' := 65) 37 rfl rfl ?_
            refine z_mu (show _ = psh μ (un a x1 s1, un b x1 z9, zrN c (x1 * 40) 0) by rw [zrN_0]) ?_
            refine l_Wb_sheet hob hx1 (by omega) (fun i9 => ?_) z9 0 (Nat.zero_add _)
            refine z_iconst (v := nI 1) (by decide) (pc' := 92) 52 rfl rfl ?_
            exact z_ireturn 53 rfl rfl (by first | rfl | exact zbo_nar) rfl rfl (by show cKs μ _ _ _; rw [f_sheet, if_pos ⟨h4, h13⟩, if_neg h20, if_pos h34, if_pos h41, show tN (hdI s1) = s1 - 1 from hd_tN hs0 hs1, show s1 - 1 + 1 = s1 by omega, tN_n (show z9 < 2 ^ 31 by omega), tN_n (show x1 < 2 ^ 31 by omega)]; exact cKs_of (iT_u (c := c) hT (by omega) (by omega)))
          · refine z_bipush (v := (-14)) (by decide) (pc' := 46) 24 rfl rfl ?_
            exact z_ireturn 25 rfl rfl (by first | rfl | exact zbo_nar) rfl rfl (by show cKs μ _ _ _; rw [f_sheet, if_pos ⟨h4, h13⟩, if_neg h20, if_pos h34, if_neg h41]; exact cKs_of (hT))
        · refine z_iconst (v := (-1)) (by decide) (pc' := 38) 20 rfl rfl ?_
          exact z_ireturn 21 rfl rfl (by first | rfl | exact zbo_nar) rfl rfl (by show cKs μ _ _ _; rw [f_sheet, if_pos ⟨h4, h13⟩, if_neg h20, if_neg h34]; exact cKs_of (hT))
      · refine z_iconst (v := nI 0) (by decide) (pc' := 24) 13 rfl rfl ?_
        refine z_goto 14 rfl (tgt := 28) rfl ?_
        refine z_is4 rfl rfl (pc' := 30) 16 rfl rfl ?_
        refine z_il4 (pc' := 32) 17 rfl rfl ?_
        refine z_bipush (v := nI 40) (by decide) (pc' := 34) 18 rfl rfl ?_
        refine z_icmp_le_t 19 rfl (tgt := 39) rfl (by decide) ?_
        refine z_il4 (pc' := 41) 22 rfl rfl ?_
        refine z_if_ge_t 23 rfl (tgt := 47) rfl (by decide) ?_
        obtain rfl : s1 = 0 := (hd_m1 hs1).mp h20
        refine z_al0 (pc' := 48) 26 rfl rfl ?_
        refine z_getf (pc' := 51) 27 rfl rfl f_Wb_47_11 (by first | exact psh_81 | exact psh_82 | exact psh_83 | (rw [psh_o (by decide)]; assumption)) (by rfl) ?_
        refine z_il1 (pc' := 52) 28 rfl rfl ?_
        refine z_il2 (pc' := 53) 29 rfl rfl ?_
        refine z_iast (pc' := 54) 30 rfl rfl (by first | exact psh_81 | exact psh_82 | exact psh_83 | (rw [psh_o (by decide)]; assumption)) (by omega) (by decide) ?_
        rw [psh_s81]
        refine z_al0 (pc' := 55) 31 rfl rfl ?_
        refine z_getf (pc' := 58) 32 rfl rfl f_Wb_51_11 (by first | exact psh_81 | exact psh_82 | exact psh_83 | (rw [psh_o (by decide)]; assumption)) (by rfl) ?_
        refine z_il1 (pc' := 59) 33 rfl rfl ?_
        refine z_il4 (pc' := 61) 34 rfl rfl ?_
        refine z_iast (pc' := 62) 35 rfl rfl (by first | exact psh_81 | exact psh_82 | exact psh_83 | (rw [psh_o (by decide)]; assumption)) (by omega) (by decide) ?_
        rw [psh_s82]
        refine z_iconst (v := nI 0) (by decide) (pc' := 63) 36 rfl rfl ?_
        refine z_is5 rfl rfl (pc' := 65) 37 rfl rfl ?_
        refine z_mu (show _ = psh μ (un a x1 0, un b x1 0, zrN c (x1 * 40) 0) by rw [zrN_0]) ?_
        refine l_Wb_sheet hob hx1 (by omega) (fun i9 => ?_) 0 0 (Nat.zero_add _)
        refine z_iconst (v := nI 1) (by decide) (pc' := 92) 52 rfl rfl ?_
        exact z_ireturn 53 rfl rfl (by first | rfl | exact zbo_nar) rfl rfl (by show cKs μ _ _ _; rw [f_sheet, if_pos ⟨h4, h13⟩, if_pos (show hdI 0 = -1 from rfl), tN_n (show x1 < 2 ^ 31 by omega)]; exact cKs_of (iT_u (c := c) hT (by omega) (by omega)))
    · refine z_iconst (v := (-1)) (by decide) (pc' := 17) 8 rfl rfl ?_
      exact z_ireturn 9 rfl rfl (by first | rfl | exact zbo_nar) rfl rfl (by show cKs μ _ _ _; rw [f_sheet, if_neg (fun z => h13 z.2)]; exact cKs_of (hT))
set_option maxHeartbeats 4000000 in
set_option maxRecDepth 100000 in
theorem c_Wb_narrowed {G : zG} {n u : Nat} {μ : Nat → va_E} {s : Nat} (hs : s ≤ 5) (h0 : s ≠ 0) (v : Int32) : zMet G 0 M_Wb_narrowed [.int (hdI s), .int v] n u μ n u (zE (some (.int (nar s v))) μ) := by
  obtain ⟨k, rfl⟩ : ∃ k, s = k + 1 := ⟨s - 1, by omega⟩
  rw [hdI_s]
  refine z_start (lv := [.int (nI k), .int v]) K_Wb_narrowed rfl rfl (Nat.le_refl _) (Nat.le_refl _) (Nat.le_of_ble_eq_true rfl) rfl ?_
  rcases (show k = 0 ∨ k = 1 ∨ k = 2 ∨ k = 3 ∨ k = 4 by omega) with e | e | e | e | e <;> subst e
  · refine z_il0 (pc' := 1) 0 rfl rfl ?_
    refine z_tableIn 1 rfl (by decide) (by decide) (off := 35) rfl (tgt := 36) rfl ?_
    refine z_il1 (pc' := 37) 2 rfl rfl ?_
    refine z_i2b (pc' := 38) 3 rfl rfl ?_
    exact z_ireturn 4 rfl rfl (by first | rfl | exact zbo_nar) rfl rfl (by exact ⟨rfl, rfl⟩)
  · refine z_il0 (pc' := 1) 0 rfl rfl ?_
    refine z_tableIn 1 rfl (by decide) (by decide) (off := 38) rfl (tgt := 39) rfl ?_
    refine z_il1 (pc' := 40) 5 rfl rfl ?_
    refine z_i2s (pc' := 41) 6 rfl rfl ?_
    exact z_ireturn 7 rfl rfl (by first | rfl | exact zbo_nar) rfl rfl (by exact ⟨rfl, rfl⟩)
  · refine z_il0 (pc' := 1) 0 rfl rfl ?_
    refine z_tableIn 1 rfl (by decide) (by decide) (off := 51) rfl (tgt := 52) rfl ?_
    refine z_il1 (pc' := 53) 14 rfl rfl ?_
    exact z_ireturn 15 rfl rfl (by first | rfl | exact zbo_nar) rfl rfl (by exact ⟨rfl, rfl⟩)
  · refine z_il0 (pc' := 1) 0 rfl rfl ?_
    refine z_tableIn 1 rfl (by decide) (by decide) (off := 51) rfl (tgt := 52) rfl ?_
    refine z_il1 (pc' := 53) 14 rfl rfl ?_
    exact z_ireturn 15 rfl rfl (by first | rfl | exact zbo_nar) rfl rfl (by exact ⟨rfl, rfl⟩)
  · refine z_il0 (pc' := 1) 0 rfl rfl ?_
    refine z_tableIn 1 rfl (by decide) (by decide) (off := 41) rfl (tgt := 42) rfl ?_
    refine z_il1 (pc' := 43) 8 rfl rfl ?_
    first | refine z_if_eq (pc' := 46) 9 rfl rfl (tgt := 50) rfl (fun h43 => ?_) (fun h43 => ?_)
    · refine z_iconst (v := nI 0) (by decide) (pc' := 51) 12 rfl rfl ?_
      exact z_ireturn 13 rfl rfl (by first | rfl | exact zbo_nar) rfl rfl (by exact ⟨by rw [nar, if_neg (by decide), if_neg (by decide), if_pos (by decide), if_pos h43], rfl⟩)
    · refine z_iconst (v := nI 1) (by decide) (pc' := 47) 10 rfl rfl ?_
      refine z_goto 11 rfl (tgt := 51) rfl ?_
      exact z_ireturn 13 rfl rfl (by first | rfl | exact zbo_nar) rfl rfl (by exact ⟨by rw [nar, if_neg (by decide), if_neg (by decide), if_pos (by decide), if_neg h43], rfl⟩)
set_option maxHeartbeats 4000000 in
set_option maxRecDepth 100000 in
theorem c_Wb_hasItem {G : zG} {n u : Nat} {μ : Nat → va_E} {τ : zτ} {kp : Int32} {ac : Value} (hsh : isSh μ τ) (hob : isOb μ kp ac) {x : Nat} (hx : x ≤ 3) (i : Int32) : zMet G 0 M_Wb_hasItem [.ref 4, .int (nI x), .int i] n u μ n u (zE (some (.int (zbo (0 ≤ i ∧ i < nI (τ.2.1 x))))) μ) := by
  unfold isOb at hob
  refine z_start (lv := [.ref 4, .int (nI x), .int i]) K_Wb_hasItem rfl rfl (Nat.le_refl _) (Nat.le_refl _) (Nat.le_of_ble_eq_true rfl) rfl ?_
  refine z_il2 (pc' := 1) 0 rfl rfl ?_
  first | refine z_if_lt (pc' := 4) 1 rfl rfl (tgt := 18) rfl (fun h1 => ?_) (fun h1 => ?_)
  · refine z_iconst (v := nI 0) (by decide) (pc' := 19) 10 rfl rfl ?_
    exact z_ireturn 11 rfl rfl (by first | rfl | exact zbo_nar) rfl rfl (by exact ⟨by rw [zbo_f (fun z => absurd h1 (Int32.not_lt.mpr z.1))], rfl⟩)
  · refine z_il2 (pc' := 5) 2 rfl rfl ?_
    refine z_al0 (pc' := 6) 3 rfl rfl ?_
    refine z_getf (pc' := 9) 4 rfl rfl f_Wb_51_11 (by first | assumption | exact hsh.2.1 | exact hsh.1 | exact hsh.2.2.1) (by rfl) ?_
    refine z_il1 (pc' := 10) 5 rfl rfl ?_
    refine z_iald (pc' := 11) 6 rfl rfl (by first | assumption | exact hsh.2.1 | exact hsh.1 | exact hsh.2.2.1) (by omega) (by decide) ?_
    first | refine z_icmp_ge (pc' := 14) 7 rfl rfl (tgt := 18) rfl (fun h11 => ?_) (fun h11 => ?_)
    · refine z_iconst (v := nI 0) (by decide) (pc' := 19) 10 rfl rfl ?_
      exact z_ireturn 11 rfl rfl (by first | rfl | exact zbo_nar) rfl rfl (by exact ⟨by rw [zbo_f (fun z => absurd z.2 (Int32.not_lt.mpr h11))], rfl⟩)
    · refine z_iconst (v := nI 1) (by decide) (pc' := 15) 8 rfl rfl ?_
      refine z_goto 9 rfl (tgt := 19) rfl ?_
      exact z_ireturn 11 rfl rfl (by first | rfl | exact zbo_nar) rfl rfl (by exact ⟨by rw [zbo_t ⟨Int32.not_lt.mp h1, Int32.not_le.mp h11⟩], rfl⟩)
set_option maxHeartbeats 4000000 in
set_option maxRecDepth 100000 in
theorem c_Wb_refusalAs {G : zG} {n u : Nat} {μ : Nat → va_E} {τ : zτ} {kp : Int32} {ac : Value} (hsh : isSh μ τ) (hob : isOb μ kp ac) {x y : Nat} (hx : x ≤ 3) (hy : y ≤ 4) : zMet G 0 M_Wb_refusalAs [.ref 4, .int (nI x), .int (nI y)] n u μ n u (zE (some (.int (rfS τ x (y + 1)))) μ) := by
  have h5 := (hsh.2.2.2 x).1
  unfold isOb at hob
  refine z_start (lv := [.ref 4, .int (nI x), .int (nI y)]) K_Wb_refusalAs rfl rfl (Nat.le_refl _) (Nat.le_refl _) (Nat.le_of_ble_eq_true rfl) rfl ?_
  refine z_al0 (pc' := 1) 0 rfl rfl ?_
  refine z_getf (pc' := 4) 1 rfl rfl f_Wb_47_11 (by first | assumption | exact hsh.2.1 | exact hsh.1 | exact hsh.2.2.1) (by rfl) ?_
  refine z_il1 (pc' := 5) 2 rfl rfl ?_
  refine z_iald (pc' := 6) 3 rfl rfl (by first | assumption | exact hsh.2.1 | exact hsh.1 | exact hsh.2.2.1) (by omega) (by decide) ?_
  refine z_iconst (v := (-1)) (by decide) (pc' := 7) 4 rfl rfl ?_
  first | refine z_icmp_ne (pc' := 10) 5 rfl rfl (tgt := 13) rfl (fun h7 => ?_) (fun h7 => ?_)
  · refine z_al0 (pc' := 14) 8 rfl rfl ?_
    refine z_getf (pc' := 17) 9 rfl rfl f_Wb_47_11 (by first | assumption | exact hsh.2.1 | exact hsh.1 | exact hsh.2.2.1) (by rfl) ?_
    refine z_il1 (pc' := 18) 10 rfl rfl ?_
    refine z_iald (pc' := 19) 11 rfl rfl (by first | assumption | exact hsh.2.1 | exact hsh.1 | exact hsh.2.2.1) (by omega) (by decide) ?_
    refine z_il2 (pc' := 20) 12 rfl rfl ?_
    first | refine z_icmp_ne (pc' := 23) 13 rfl rfl (tgt := 27) rfl (fun h20 => ?_) (fun h20 => ?_)
    · refine z_bipush (v := (-13)) (by decide) (pc' := 29) 16 rfl rfl ?_
      exact z_ireturn 17 rfl rfl (by first | rfl | exact zbo_nar) rfl rfl (by exact ⟨by rw [rfS, if_neg (fun z => h7 ((hd_m1 h5).mpr z)), if_neg (fun z => h20 ((hd_eq h5 (by omega)).mpr z))], rfl⟩)
    · refine z_iconst (v := nI 0) (by decide) (pc' := 24) 14 rfl rfl ?_
      refine z_goto 15 rfl (tgt := 29) rfl ?_
      exact z_ireturn 17 rfl rfl (by first | rfl | exact zbo_nar) rfl rfl (by exact ⟨by rw [rfS, if_neg (fun z => h7 ((hd_m1 h5).mpr z)), if_pos ((hd_eq h5 (by omega)).mp h20)], rfl⟩)
  · refine z_bipush (v := (-11)) (by decide) (pc' := 12) 6 rfl rfl ?_
    exact z_ireturn 7 rfl rfl (by first | rfl | exact zbo_nar) rfl rfl (by exact ⟨by rw [rfS, if_pos ((hd_m1 h5).mp h7)], rfl⟩)
set_option maxHeartbeats 4000000 in
set_option maxRecDepth 100000 in
theorem c_Wb_write {G : zG} {n u : Nat} {μ : Nat → va_E} {τ : zτ} {kp : Int32} {ac : Value} (h : isSh μ τ) (hob : isOb μ kp ac) (x i v : Int32) :
    zMet G 2 M_Wb_write [.ref 4, .int x, .int i, .int v] n u μ n u (cKs μ (f_write τ x i v)) := by
  obtain ⟨a, b, c⟩ := τ
  have hsh := h
  have hT : iT (a, b, c) := h.2.2.2
  refine z_start (lv := [.ref 4, .int x, .int i, .int v]) K_Wb_write rfl rfl (Nat.le_refl _) (Nat.le_refl _) (Nat.le_of_ble_eq_true rfl) rfl ?_
  unfold isOb at hob
  refine z_mu (psh_id h).symm ?_
  refine z_il1 (pc' := 1) 0 rfl rfl ?_
  refine z_callS1 (pc' := 4) 1 rfl rfl k_Wb_272 (c_Wb_isSheet _) (by decide) (Nat.le_refl _) (Nat.le_refl _) rfl rfl (Nat.le_of_ble_eq_true rfl) ?_
  first | refine z_if_neB (pc' := 7) 2 rfl rfl (tgt := 9) rfl (fun h4 => ?_) (fun h4 => ?_) | refine z_if_neN (pc' := 7) 2 rfl rfl (tgt := 9) rfl (by omega) (fun h4 => ?_) (fun h4 => ?_) | refine z_if_ne (pc' := 7) 2 rfl rfl (tgt := 9) rfl (fun h4 => ?_) (fun h4 => ?_)
  · obtain ⟨x1, hx0, hx1, rfl⟩ := z_wi h4 (by decide) (by decide)
    refine z_al0 (pc' := 10) 5 rfl rfl ?_
    refine z_getf (pc' := 13) 6 rfl rfl f_Wb_47_11 (by first | exact psh_81 | exact psh_82 | exact psh_83 | (rw [psh_o (by decide)]; assumption)) (by rfl) ?_
    refine z_il1 (pc' := 14) 7 rfl rfl ?_
    refine z_iald (pc' := 15) 8 rfl rfl (by first | exact psh_81 | exact psh_82 | exact psh_83 | (rw [psh_o (by decide)]; assumption)) (by omega) (by decide) ?_
    refine z_iconst (v := (-1)) (by decide) (pc' := 16) 9 rfl rfl ?_
    first | refine z_icmp_ne (pc' := 19) 10 rfl rfl (tgt := 22) rfl (fun h16 => ?_) (fun h16 => ?_)
    · refine z_al0 (pc' := 23) 13 rfl rfl ?_
      refine z_il1 (pc' := 24) 14 rfl rfl ?_
      refine z_il2 (pc' := 25) 15 rfl rfl ?_
      refine z_callV1 (pc' := 28) 16 rfl rfl k_Wb_275 (by first | exact psh_81 | exact psh_82 | exact psh_83 | (rw [psh_o (by decide)]; assumption)) (c_Wb_hasItem (τ := (a, b, c)) ⟨psh_81, psh_82, psh_83, hT⟩ (show isOb (psh μ (a, b, c)) kp ac from by unfold isOb; rw [psh_o (by decide)]; exact hob) hx1 _) (by decide) (Nat.le_refl _) (Nat.le_refl _) rfl rfl (Nat.le_of_ble_eq_true rfl) ?_
      first | refine z_if_neB (pc' := 31) 17 rfl rfl (tgt := 34) rfl (fun h28 => ?_) (fun h28 => ?_) | refine z_if_neN (pc' := 31) 17 rfl rfl (tgt := 34) rfl (by omega) (fun h28 => ?_) (fun h28 => ?_) | refine z_if_ne (pc' := 31) 17 rfl rfl (tgt := 34) rfl (fun h28 => ?_) (fun h28 => ?_)
      · have hb40 := (hT x1).2
        obtain ⟨i1, hi1, rfl⟩ := z_in h28 (by show b x1 < 2 ^ 31; have : b x1 ≤ 40 := hb40; omega)
        have hi40 : i1 < 40 := Nat.lt_of_lt_of_le hi1 hb40
        refine z_al0 (pc' := 35) 20 rfl rfl ?_
        refine z_getf (pc' := 38) 21 rfl rfl f_Wb_54_11 (by first | exact psh_81 | exact psh_82 | exact psh_83 | (rw [psh_o (by decide)]; assumption)) (by rfl) ?_
        refine z_il1 (pc' := 39) 22 rfl rfl ?_
        refine z_bipush (v := nI 40) (by decide) (pc' := 41) 23 rfl rfl ?_
        first | refine z_imulN (pc' := 42) 24 rfl rfl ?_ | refine z_imul (pc' := 42) 24 rfl rfl ?_
        refine z_il2 (pc' := 43) 25 rfl rfl ?_
        first | refine z_iaddN (pc' := 44) 26 rfl rfl ?_ | refine z_iadd (pc' := 44) 26 rfl rfl ?_
        refine z_al0 (pc' := 45) 27 rfl rfl ?_
        refine z_getf (pc' := 48) 28 rfl rfl f_Wb_47_11 (by first | exact psh_81 | exact psh_82 | exact psh_83 | (rw [psh_o (by decide)]; assumption)) (by rfl) ?_
        refine z_il1 (pc' := 49) 29 rfl rfl ?_
        refine z_iald (pc' := 50) 30 rfl rfl (by first | exact psh_81 | exact psh_82 | exact psh_83 | (rw [psh_o (by decide)]; assumption)) (by omega) (by decide) ?_
        refine z_il3 (pc' := 51) 31 rfl rfl ?_
        refine z_callS1 (pc' := 54) 32 rfl rfl k_Wb_278 (c_Wb_narrowed (hT x1).1 (fun z => h16 ((hd_m1 (hT x1).1).mpr z)) _) (by decide) (Nat.le_refl _) (Nat.le_refl _) rfl rfl (Nat.le_of_ble_eq_true rfl) ?_
        refine z_iast (pc' := 55) 33 rfl rfl (by first | exact psh_81 | exact psh_82 | exact psh_83 | (rw [psh_o (by decide)]; assumption)) (by omega) (by decide) ?_
        rw [psh_s83]
        refine z_iconst (v := nI 1) (by decide) (pc' := 56) 34 rfl rfl ?_
        exact z_ireturn 35 rfl rfl (by first | rfl | exact zbo_nar) rfl rfl (by show cKs μ _ _ _; rw [f_write, if_pos h4, tN_n (show x1 < 2 ^ 31 by omega), if_neg (fun z => h16 ((hd_m1 (hT x1).1).mpr z)), if_pos h28, tN_n (show i1 < 2 ^ 31 by omega)]; exact cKs_of (fun j => hT j))
      · refine z_bipush (v := (-12)) (by decide) (pc' := 33) 18 rfl rfl ?_
        exact z_ireturn 19 rfl rfl (by first | rfl | exact zbo_nar) rfl rfl (by show cKs μ _ _ _; rw [f_write, if_pos h4, tN_n (show x1 < 2 ^ 31 by omega), if_neg (fun z => h16 ((hd_m1 (hT x1).1).mpr z)), if_neg h28]; exact cKs_of (hT))
    · refine z_bipush (v := (-11)) (by decide) (pc' := 21) 11 rfl rfl ?_
      exact z_ireturn 12 rfl rfl (by first | rfl | exact zbo_nar) rfl rfl (by show cKs μ _ _ _; rw [f_write, if_pos h4, tN_n (show x1 < 2 ^ 31 by omega), if_pos ((hd_m1 (hT x1).1).mp h16)]; exact cKs_of (hT))
  · refine z_iconst (v := (-1)) (by decide) (pc' := 8) 3 rfl rfl ?_
    exact z_ireturn 4 rfl rfl (by first | rfl | exact zbo_nar) rfl rfl (by show cKs μ _ _ _; rw [f_write, if_neg h4]; exact cKs_of (hT))
theorem rf_0 {τ : zτ} {x s : Nat} (h : rfS τ x s = 0) : τ.1 x ≠ 0 ∧ τ.1 x = s := by
  unfold rfS at h
  split at h
  · exact absurd h (by decide)
  · rename_i e
    split at h
    · rename_i e2; exact ⟨e, e2⟩
    · exact absurd h (by decide)
theorem it_no {τ : zτ} {x1 y1 : Nat} {v : Int32} (h : ¬ rfS τ x1 (y1 + 1) = 0) (h4 : nI 0 ≤ nI x1 ∧ nI x1 ≤ nI 3) (h13 : nI 0 ≤ nI y1 ∧ nI y1 ≤ nI 4) (hx : x1 < 2 ^ 31) (hy : y1 < 2 ^ 31) : f_item τ (nI x1) (nI y1) v = rfS τ x1 (y1 + 1) := by
  rw [f_item, if_pos ⟨h4, h13⟩, tN_n hx, tN_n hy]
  unfold rfS at h ⊢
  by_cases e : τ.1 x1 = 0
  · rw [if_pos e, if_pos e]
  · rw [if_neg e, if_neg e]
    rw [if_neg e] at h
    by_cases e2 : τ.1 x1 = y1 + 1
    · rw [if_pos e2] at h; exact absurd rfl h
    · rw [if_neg e2, if_neg e2]
set_option maxHeartbeats 4000000 in
set_option maxRecDepth 100000 in
theorem c_Wb_item {G : zG} {n u : Nat} {μ : Nat → va_E} {τ : zτ} {kp : Int32} {ac : Value} (h : isSh μ τ) (hob : isOb μ kp ac) (x y v : Int32) :
    zMet G 2 M_Wb_item [.ref 4, .int x, .int y, .int v] n u μ n u (cKs μ (f_item τ x y v, τ)) := by
  obtain ⟨a, b, c⟩ := τ
  have hsh := h
  have hT : iT (a, b, c) := h.2.2.2
  refine z_start (lv := [.ref 4, .int x, .int y, .int v, .retAddr 0]) K_Wb_item rfl rfl (Nat.le_refl _) (Nat.le_refl _) (Nat.le_of_ble_eq_true rfl) rfl ?_
  unfold isOb at hob
  refine z_mu (psh_id h).symm ?_
  refine z_il1 (pc' := 1) 0 rfl rfl ?_
  refine z_callS1 (pc' := 4) 1 rfl rfl k_Wb_272 (c_Wb_isSheet _) (by decide) (Nat.le_refl _) (Nat.le_refl _) rfl rfl (Nat.le_of_ble_eq_true rfl) ?_
  first | refine z_if_eqB (pc' := 7) 2 rfl rfl (tgt := 16) rfl (fun h4 => ?_) (fun h4 => ?_) | refine z_if_eqN (pc' := 7) 2 rfl rfl (tgt := 16) rfl (by omega) (fun h4 => ?_) (fun h4 => ?_) | refine z_if_eq (pc' := 7) 2 rfl rfl (tgt := 16) rfl (fun h4 => ?_) (fun h4 => ?_)
  · refine z_iconst (v := (-1)) (by decide) (pc' := 17) 8 rfl rfl ?_
    exact z_ireturn 9 rfl rfl (by first | rfl | exact zbo_nar) rfl rfl (by show cKs μ _ _ _; rw [f_item, if_neg (fun z => h4 z.1)]; exact cKs_of (hT))
  · refine z_il2 (pc' := 8) 3 rfl rfl ?_
    refine z_iconst (v := nI 0) (by decide) (pc' := 9) 4 rfl rfl ?_
    refine z_iconst (v := nI 4) (by decide) (pc' := 10) 5 rfl rfl ?_
    refine z_callS1 (pc' := 13) 6 rfl rfl k_Wb_72 (c_Wb_within _ _ _) (by decide) (Nat.le_refl _) (Nat.le_refl _) rfl rfl (Nat.le_of_ble_eq_true rfl) ?_
    first | refine z_if_neB (pc' := 16) 7 rfl rfl (tgt := 18) rfl (fun h13 => ?_) (fun h13 => ?_) | refine z_if_neN (pc' := 16) 7 rfl rfl (tgt := 18) rfl (by omega) (fun h13 => ?_) (fun h13 => ?_) | refine z_if_ne (pc' := 16) 7 rfl rfl (tgt := 18) rfl (fun h13 => ?_) (fun h13 => ?_)
    · obtain ⟨x1, hx0, hx1, rfl⟩ := z_wi h4 (by decide) (by decide)
      obtain ⟨y1, hy0, hy1, rfl⟩ := z_wi h13 (by decide) (by decide)
      refine z_al0 (pc' := 19) 10 rfl rfl ?_
      refine z_il1 (pc' := 20) 11 rfl rfl ?_
      refine z_il2 (pc' := 21) 12 rfl rfl ?_
      refine z_callV1 (pc' := 24) 13 rfl rfl k_Wb_282 (by first | exact psh_81 | exact psh_82 | exact psh_83 | (rw [psh_o (by decide)]; assumption)) (c_Wb_refusalAs (τ := (a, b, c)) (y := y1) ⟨psh_81, psh_82, psh_83, hT⟩ (show isOb (psh μ (a, b, c)) kp ac from by unfold isOb; rw [psh_o (by decide)]; exact hob) hx1 hy1) (by decide) (Nat.le_refl _) (Nat.le_refl _) rfl rfl (Nat.le_of_ble_eq_true rfl) ?_
      refine z_is4 rfl rfl (pc' := 26) 14 rfl rfl ?_
      refine z_il4 (pc' := 28) 15 rfl rfl ?_
      first | refine z_if_eq (pc' := 31) 16 rfl rfl (tgt := 34) rfl (fun h28 => ?_) (fun h28 => ?_)
      · refine z_al0 (pc' := 35) 19 rfl rfl ?_
        refine z_il1 (pc' := 36) 20 rfl rfl ?_
        refine z_il3 (pc' := 37) 21 rfl rfl ?_
        refine z_callV1 (pc' := 40) 22 rfl rfl k_Wb_275 (by first | exact psh_81 | exact psh_82 | exact psh_83 | (rw [psh_o (by decide)]; assumption)) (c_Wb_hasItem (τ := (a, b, c)) ⟨psh_81, psh_82, psh_83, hT⟩ (show isOb (psh μ (a, b, c)) kp ac from by unfold isOb; rw [psh_o (by decide)]; exact hob) hx1 _) (by decide) (Nat.le_refl _) (Nat.le_refl _) rfl rfl (Nat.le_of_ble_eq_true rfl) ?_
        first | refine z_if_eqB (pc' := 43) 23 rfl rfl (tgt := 57) rfl (fun h40 => ?_) (fun h40 => ?_) | refine z_if_eqN (pc' := 43) 23 rfl rfl (tgt := 57) rfl (by omega) (fun h40 => ?_) (fun h40 => ?_) | refine z_if_eq (pc' := 43) 23 rfl rfl (tgt := 57) rfl (fun h40 => ?_) (fun h40 => ?_)
        · refine z_bipush (v := (-12)) (by decide) (pc' := 59) 33 rfl rfl ?_
          exact z_ireturn 34 rfl rfl (by first | rfl | exact zbo_nar) rfl rfl (by show cKs μ _ _ _; rw [f_item, if_pos ⟨h4, h13⟩, tN_n (show x1 < 2 ^ 31 by omega), tN_n (show y1 < 2 ^ 31 by omega), if_neg (rf_0 h28).1, if_pos (rf_0 h28).2, if_neg h40]; exact cKs_of (hT))
        · have hb40 := (hT x1).2
          obtain ⟨i1, hi1, rfl⟩ := z_in h40 (by show b x1 < 2 ^ 31; have : b x1 ≤ 40 := hb40; omega)
          have hi40 : i1 < 40 := Nat.lt_of_lt_of_le hi1 hb40
          refine z_al0 (pc' := 44) 24 rfl rfl ?_
          refine z_getf (pc' := 47) 25 rfl rfl f_Wb_54_11 (by first | exact psh_81 | exact psh_82 | exact psh_83 | (rw [psh_o (by decide)]; assumption)) (by rfl) ?_
          refine z_il1 (pc' := 48) 26 rfl rfl ?_
          refine z_bipush (v := nI 40) (by decide) (pc' := 50) 27 rfl rfl ?_
          first | refine z_imulN (pc' := 51) 28 rfl rfl ?_ | refine z_imul (pc' := 51) 28 rfl rfl ?_
          refine z_il3 (pc' := 52) 29 rfl rfl ?_
          first | refine z_iaddN (pc' := 53) 30 rfl rfl ?_ | refine z_iadd (pc' := 53) 30 rfl rfl ?_
          refine z_iald (pc' := 54) 31 rfl rfl (by first | exact psh_81 | exact psh_82 | exact psh_83 | (rw [psh_o (by decide)]; assumption)) (by omega) (by decide) ?_
          refine z_goto 32 rfl (tgt := 59) rfl ?_
          exact z_ireturn 34 rfl rfl (by first | rfl | exact zbo_nar) rfl rfl (by show cKs μ _ _ _; rw [f_item, if_pos ⟨h4, h13⟩, tN_n (show x1 < 2 ^ 31 by omega), tN_n (show y1 < 2 ^ 31 by omega), if_neg (rf_0 h28).1, if_pos (rf_0 h28).2, if_pos h40, tN_n (show i1 < 2 ^ 31 by omega)]; exact cKs_of (hT))
      · refine z_il4 (pc' := 33) 17 rfl rfl ?_
        exact z_ireturn 18 rfl rfl (by first | rfl | exact zbo_nar) rfl rfl (by show cKs μ _ _ _; rw [show f_item (a, b, c) (nI x1) (nI y1) v = rfS (a, b, c) x1 (y1 + 1) from it_no h28 h4 h13 (by omega) (by omega)]; exact cKs_of hT)
    · refine z_iconst (v := (-1)) (by decide) (pc' := 17) 8 rfl rfl ?_
      exact z_ireturn 9 rfl rfl (by first | rfl | exact zbo_nar) rfl rfl (by show cKs μ _ _ _; rw [f_item, if_neg (fun z => h13 z.2)]; exact cKs_of (hT))
