/-! ===== a coast, as both hold it: S, month, promised, faith, score, z, how many rules, what the rules tell ===== -/
abbrev zD6 : Type := Nat → Nat → Nat → Nat → Nat → Nat → Nat
abbrev zκ : Type := (Nat → Nat → Nat) × Nat × (Nat → Nat) × (Nat → Nat) × Int32 × Int32 × Nat × zD6
def isCr (μ : Nat → va_E) (a mo cs : Nat) (pr fa q : Nat → Nat) : Prop := μ a = .inr (4, [.int (nI mo), .ref (a + 1), .ref (a + 2), .int (nI cs), .ref (a + 3)]) ∧ μ (a + 1) = .inl (0, 6, .inl (fun j => nI (pr j))) ∧ μ (a + 2) = .inl (0, 6, .inl (fun j => nI (fa j))) ∧ μ (a + 3) = .inl (0, 5, .inl (fun j => nI (q j)))
theorem pcr_id {μ : Nat → va_E} {a mo cs : Nat} {pr fa q : Nat → Nat} (h : isCr μ a mo cs pr fa q) : pcr μ a mo cs pr fa q = μ := by
  obtain ⟨h0, h1, h2, h3⟩ := h
  unfold pcr
  rw [zu_id h0, zu_id h1, zu_id h2, zu_id h3]
theorem pcr_is {ν : Nat → va_E} {a mo cs : Nat} {pr fa q : Nat → Nat} : isCr (pcr ν a mo cs pr fa q) a mo cs pr fa q := ⟨pcr_0, pcr_1, pcr_2, pcr_3⟩
theorem isCr_fr {μ μ' : Nat → va_E} {a mo cs : Nat} {pr fa q : Nat → Nat} (h : isCr μ a mo cs pr fa q) (hf : ∀ i, a ≤ i → i ≤ a + 3 → μ' i = μ i) : isCr μ' a mo cs pr fa q := by
  obtain ⟨h0, h1, h2, h3⟩ := h
  refine ⟨?_, ?_, ?_, ?_⟩ <;> rw [hf _ (by omega) (by omega)] <;> assumption
theorem isBk_fr {μ μ' : Nat → va_E} {b : Nat} {β : Nat → Nat → Nat} (h : isBk μ b β) (hf : ∀ i, b ≤ i → i ≤ b + 4 → μ' i = μ i) : isBk μ' b β := by
  obtain ⟨h0, h1, h2, h3, h4⟩ := h
  refine ⟨?_, ?_, ?_, ?_, ?_⟩ <;> rw [hf _ (by omega) (by omega)] <;> assumption
/-- what holds of every coast -/
def iK : zκ → Prop
  | (S, mo, pr, fa, _, _, rc, _) => iS S ∧ iX S pr fa ∧ mo ≤ S 0 3 ∧ rc ≤ 8
/-- the class's coast (5 to 23) is κ -/
def cst (μ : Nat → va_E) : zκ → Prop
  | (S, mo, pr, fa, sc, ch, rc, D) => isCo μ S sc ch ∧ (∃ (cs : Nat) (q : Nat → Nat), isCr μ 13 mo cs pr fa q) ∧ (∃ (β : Nat → Nat → Nat) (its : Nat → zI), isBk μ 17 β ∧ dzB β its D ∧ β 0 0 = rc) ∧ (∃ c : Nat → Int32, μ 23 = .inl (0, 6, .inl c)) ∧ iK (S, mo, pr, fa, sc, ch, rc, D)
theorem isCo_fr {μ μ' : Nat → va_E} {S : Nat → Nat → Nat} {sc ch : Int32} (h : isCo μ S sc ch) (hf : ∀ i, (5 ≤ i ∧ i ≤ 12) ∨ i = 22 → μ' i = μ i) : isCo μ' S sc ch := by
  obtain ⟨m5, m6, m7, m8, m9, m10, m11, m12, m22⟩ := h
  refine ⟨?_, ?_, ?_, ?_, ?_, ?_, ?_, ?_, ?_⟩ <;> rw [hf _ (by omega)] <;> assumption
theorem cst_fr {μ μ' : Nat → va_E} {κ : zκ} (h : cst μ κ) (hf : ∀ i, 5 ≤ i → i ≤ 23 → μ' i = μ i) : cst μ' κ := by
  obtain ⟨S, mo, pr, fa, sc, ch, rc, D⟩ := κ
  obtain ⟨h1, ⟨cs, q, h2⟩, ⟨β, its, h3, h3a, h3b⟩, ⟨c, h4⟩, h5⟩ := h
  exact ⟨isCo_fr h1 (fun i hi => hf i (by omega) (by omega)), ⟨cs, q, isCr_fr h2 (fun i a b => hf i (by omega) (by omega))⟩, ⟨β, its, isBk_fr h3 (fun i a b => hf i (by omega) (by omega)), h3a, h3b⟩, ⟨c, by rw [hf 23 (by decide) (by decide)]; exact h4⟩, h5⟩
/-- a call that touches the coast alone: its answer, and the coast behind it -/
def cK (μ : Nat → va_E) (p : Int32 × zκ) : zP := fun r μ' => r = some (.int p.1) ∧ cst μ' p.2 ∧ ∀ i, (i < 5 ∨ 23 < i) → μ' i = μ i
/-- the class's own object -/
def isOb (μ : Nat → va_E) (kp : Int32) (ac : Value) : Prop := μ 4 = .inr (11, [.ref 5, .ref 24, .int kp, .ref 43, .ref 47, .ref 51, .ref 56, .ref 81, .ref 82, .ref 83, .ref 84, .ref 85, .ref 86, .ref 87, ac])
/-- the reference's coast (its row m) is κ; its other rows are there -/
def mst (μ : Nat → va_E) (s : Nat → Int32) : zκ → Prop
  | (S, mo, pr, fa, sc, ch, rc, D) => (∃ ρ : Nat → Int32, μ 89 = .inl (0, 618, .inl (mk S mo pr fa sc ch rc ρ)) ∧ dzM ρ rc D) ∧ μ 88 = mob s ∧ (∃ q : Nat → Int32, μ 93 = .inl (1, 100, .inl q)) ∧ (∃ q : Nat → Int32, μ 91 = .inl (0, 618, .inl q)) ∧ (∃ q : Nat → Int32, μ 94 = .inl (0, 6, .inl q)) ∧ (∃ q : Nat → Int32, μ 95 = .inl (0, 6, .inl q)) ∧ (∃ q : Nat → Int32, μ 96 = .inl (0, 2472, .inl q)) ∧ (∃ q : Nat → Int32, μ 97 = .inl (0, 618, .inl q)) ∧ iK (S, mo, pr, fa, sc, ch, rc, D)
def sEq (s s' : Nat → Int32) : Prop := s' 3 = s 3 ∧ s' 5 = s 5 ∧ s' 23 = s 23 ∧ s' 32 = s 32
theorem sEq_r {s : Nat → Int32} : sEq s s := ⟨rfl, rfl, rfl, rfl⟩
def mK (μ : Nat → va_E) (s : Nat → Int32) (p : Int32 × zκ) : zP := fun r μ' => r = some (.int p.1) ∧ ∃ s' : Nat → Int32, sEq s s' ∧ mst μ' s' p.2 ∧ ∀ i, (i < 88 ∨ i = 90 ∨ i = 92 ∨ 97 < i) → μ' i = μ i
theorem pm_id {μ : Nat → va_E} {s m : Nat → Int32} (h0 : μ 88 = mob s) (h1 : μ 89 = .inl (0, 618, .inl m)) : pm μ s m = μ := by
  unfold pm
  rw [zu_id h0, zu_id h1]
/-- the row alone has become another one -/
theorem mst_pm {μ : Nat → va_E} {s s' : Nat → Int32} {κ : zκ} (h : mst μ s κ) {S : Nat → Nat → Nat} {mo : Nat} {pr fa : Nat → Nat} {sc ch : Int32} {rc : Nat} {ρ : Nat → Int32} {D : zD6} (hd : dzM ρ rc D) (hk : iK (S, mo, pr, fa, sc, ch, rc, D)) : mst (pm μ s' (mk S mo pr fa sc ch rc ρ)) s' (S, mo, pr, fa, sc, ch, rc, D) := by
  obtain ⟨S0, mo0, pr0, fa0, sc0, ch0, rc0, D0⟩ := κ
  obtain ⟨-, -, ⟨q3, h3⟩, ⟨q4, h4⟩, ⟨q5, h5⟩, ⟨q6, h6⟩, ⟨q7, h7⟩, ⟨q8, h8⟩, -⟩ := h
  exact ⟨⟨ρ, pm_1, hd⟩, pm_0, ⟨q3, by rw [pm_o (by decide)]; exact h3⟩, ⟨q4, by rw [pm_o (by decide)]; exact h4⟩, ⟨q5, by rw [pm_o (by decide)]; exact h5⟩, ⟨q6, by rw [pm_o (by decide)]; exact h6⟩, ⟨q7, by rw [pm_o (by decide)]; exact h7⟩, ⟨q8, by rw [pm_o (by decide)]; exact h8⟩, hk⟩
theorem z_in {x : Int32} {k : Nat} (h : 0 ≤ x ∧ x < nI k) (hk : k < 2 ^ 31) : ∃ j, j < k ∧ x = nI j := by
  obtain ⟨j, hj, e⟩ := nI_of (x := x) (Int32.not_lt.mpr h.1)
  refine ⟨j, ?_, e⟩
  rw [e] at h
  exact (nI_ltI hj hk).mp h.2
theorem z_wi {x : Int32} {a b : Nat} (h : nI a ≤ x ∧ x ≤ nI b) (hb : b < 2 ^ 31) (ha : a < 2 ^ 31) : ∃ j, a ≤ j ∧ j ≤ b ∧ x = nI j := by
  have h0 : ¬ x < 0 := by
    intro q
    have h1 := Int32.lt_of_le_of_lt h.1 q
    exact nI_pos ha h1
  obtain ⟨j, hj, e⟩ := nI_of (x := x) h0
  refine ⟨j, ?_, ?_, e⟩
  · rw [e] at h; exact (nI_leI ha hj).mp h.1
  · rw [e] at h; exact (nI_leI hj hb).mp h.2
abbrev tN (x : Int32) : Nat := x.toNatClampNeg
theorem tN_n {j : Nat} (h : j < 2 ^ 31) : tN (nI j) = j := nI_clamp h
