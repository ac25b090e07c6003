/-! ===== the two objects, whole: coast, kept coast and whether one is kept; sheets; shelves; rows; tape; trace ===== -/
abbrev zAll : Type := (zκ × zκ × Bool) × zτ × zσ × (Nat × (Nat → Int32)) × ((Nat → Nat) × Nat × (Nat → Nat)) × (Nat × (Nat → Int32))
def cSt (μ : Nat → va_E) : zAll → Prop
  | ((κ, κ', kf), τ, σ, (R, rw), (b, ln, tk), (tc, tr)) => cst μ κ ∧ cstA μ 24 κ' ∧ (∃ ac : Value, isOb μ (bI kf) ac ∧ isAc μ ac tc) ∧ isTr μ ∧ isPl μ R rw ∧ isSh μ τ ∧ isHe μ σ ∧ isTa μ b ln tk ∧ μ 87 = .inl (0, 30, .inl tr)
def mSs (μ : Nat → va_E) (s : Nat → Int32) : zAll → Prop
  | ((κ, κ', kf), τ, σ, (R, rw), (b, ln, _), (tc, tr)) => mst μ s κ ∧ mkp μ s kf κ' ∧ isRo μ s R rw ∧ s 5 = nI ln ∧ μ 92 = .inl (0, 200, .inl (fun i => nI (b i))) ∧ isShM μ τ ∧ isHeM μ σ ∧ s 32 = nI tc ∧ μ 105 = .inl (0, 30, .inl tr)
def mSt (μ : Nat → va_E) (A9 : zAll) : Prop := ∃ s : Nat → Int32, mSs μ s A9
theorem isPl_fr {μ μ' : Nat → va_E} {R : Nat} {rw : Nat → Int32} (h : isPl μ R rw) (hf : ∀ i, 56 ≤ i → i ≤ 80 → μ' i = μ i) : isPl μ' R rw := by
  obtain ⟨f, ba, ac, cr, ψ, bh, h1, h2, h3, h4, h5, h6, h7, h8⟩ := h
  exact ⟨f, ba, ac, cr, ψ, bh, by rw [hf _ (by decide) (by decide)]; exact h1, by rw [hf _ (by decide) (by decide)]; exact h2, by rw [hf _ (by decide) (by decide)]; exact h3, by rw [hf _ (by decide) (by decide)]; exact h4, by rw [hf _ (by decide) (by decide)]; exact h5, h6, fun i hi => isCX_fr (h7 i hi) (fun j a1 a2 => hf j (by omega) (by omega)), h8⟩
theorem isTr_fr {μ μ' : Nat → va_E} (h : isTr μ) (hf : ∀ i, 43 ≤ i → i ≤ 46 → μ' i = μ i) : isTr μ' := by
  obtain ⟨mo, cs, pr, fa, q, h⟩ := h
  exact ⟨mo, cs, pr, fa, q, isCr_fr h (fun i a1 a2 => hf i (by omega) (by omega))⟩
theorem isAc_fr {μ μ' : Nat → va_E} {ac : Value} {tc : Nat} (h : isAc μ ac tc) (hf : ∀ i, 106 ≤ i → μ' i = μ i) : isAc μ' ac tc := by
  rcases h with h | ⟨a, ci, x, y, q, h1, h2, h3, h4⟩
  · exact Or.inl h
  · exact Or.inr ⟨a, ci, x, y, q, h1, h2, h3, by rw [hf a h3]; exact h4⟩
theorem isOb_f9 {μ μ' : Nat → va_E} {kp : Int32} {ac : Value} (h : isOb μ kp ac) (hf : μ' 4 = μ 4) : isOb μ' kp ac := hf.trans h
theorem isShM_fr9 {μ μ' : Nat → va_E} {τ : zτ} (h : isShM μ τ) (hf : ∀ i, 99 ≤ i → i ≤ 101 → μ' i = μ i) : isShM μ' τ := by
  obtain ⟨c, h1, h2, h3, h4⟩ := h
  exact ⟨c, by rw [hf _ (by decide) (by decide)]; exact h1, by rw [hf _ (by decide) (by decide)]; exact h2, by rw [hf _ (by decide) (by decide)]; exact h3, h4⟩
theorem isHeM_fr9 {μ μ' : Nat → va_E} {σ : zσ} (h : isHeM μ σ) (hf : ∀ i, 102 ≤ i → i ≤ 104 → μ' i = μ i) : isHeM μ' σ := by
  obtain ⟨a, c, h1, h2, h3, h4⟩ := h
  exact ⟨a, c, by rw [hf _ (by decide) (by decide)]; exact h1, by rw [hf _ (by decide) (by decide)]; exact h2, by rw [hf _ (by decide) (by decide)]; exact h3, h4⟩
theorem mkp_fr9 {μ μ' : Nat → va_E} {s s' : Nat → Int32} {kf : Bool} {κ : zκ} (h : mkp μ s kf κ) (h3 : s' 3 = s 3) (hf : μ' 90 = μ 90) : mkp μ' s' kf κ := by
  obtain ⟨S, mo, pr, fa, sc, ch, rc, D⟩ := κ
  obtain ⟨h1, ⟨q, h2⟩, h4⟩ := h
  exact ⟨h3.trans h1, ⟨q, hf.trans h2⟩, fun z => by obtain ⟨ρ, g1, g2⟩ := h4 z; exact ⟨ρ, hf.trans g1, g2⟩⟩
/-- untouched -/
theorem cSt_fr {μ μ' : Nat → va_E} {A9 : zAll} (h : cSt μ A9) (hf : ∀ i, (i < 88 ∨ 105 < i) → μ' i = μ i) : cSt μ' A9 := by
  obtain ⟨⟨κ, κ', kf⟩, τ, σ, ⟨R, rw⟩, ⟨b, ln, tk⟩, ⟨tc, tr⟩⟩ := A9
  obtain ⟨h1, h2, ⟨ac, h3, h3a⟩, h4, h5, h6, h7, h8, h9⟩ := h
  exact ⟨cst_fr h1 (fun i a1 a2 => hf i (by omega)), cstA_fr h2 (fun i a1 a2 => hf i (by omega)), ⟨ac, isOb_f9 h3 (hf 4 (by decide)), isAc_fr h3a (fun i a1 => hf i (by omega))⟩, isTr_fr h4 (fun i a1 a2 => hf i (by omega)), isPl_fr h5 (fun i a1 a2 => hf i (by omega)), isSh_fr h6 (fun i a1 a2 => hf i (by omega)), isHe_fr h7 (fun i a1 a2 => hf i (by omega)), isTa_fr h8 (fun i a1 a2 => hf i (by omega)), (hf 87 (by decide)).trans h9⟩
theorem mSt_fr {μ μ' : Nat → va_E} {A9 : zAll} (h : mSt μ A9) (hf : ∀ i, 88 ≤ i → i ≤ 105 → μ' i = μ i) : mSt μ' A9 := by
  obtain ⟨⟨κ, κ', kf⟩, τ, σ, ⟨R, rw⟩, ⟨b, ln, tk⟩, ⟨tc, tr⟩⟩ := A9
  obtain ⟨s, h1, h2, h3, h4, h5, h6, h7, h8, h9⟩ := h
  exact ⟨s, mst_fr h1 (fun i a1 a2 _ _ => hf i (by omega) (by omega)), mkp_fr9 h2 rfl (hf 90 (by decide) (by decide)), ⟨h3.1, (hf 98 (by decide) (by decide)).trans h3.2.1, h3.2.2⟩, h4, (hf 92 (by decide) (by decide)).trans h5, isShM_fr9 h6 (fun i a1 a2 => hf i (by omega) (by omega)), isHeM_fr9 h7 (fun i a1 a2 => hf i (by omega) (by omega)), h8, (hf 105 (by decide) (by decide)).trans h9⟩
section STEP
variable {μ μ' : Nat → va_E} {κ κ' κ2 : zκ} {kf : Bool} {τ τ2 : zτ} {σ σ2 : zσ} {R R2 : Nat} {rw rw2 : Nat → Int32} {b b2 tk : Nat → Nat} {ln ln2 tc : Nat} {tr : Nat → Int32} {a : Int32} {r : Option Value} {s : Nat → Int32}
/-- a call that touched the class's coast -/
theorem cSt_K (h : cSt μ ((κ, κ', kf), τ, σ, (R, rw), (b, ln, tk), (tc, tr))) (k : cK μ (a, κ2) r μ') : cSt μ' ((κ2, κ', kf), τ, σ, (R, rw), (b, ln, tk), (tc, tr)) ∧ ∀ i, 88 ≤ i → μ' i = μ i := by
  obtain ⟨h1, h2, ⟨ac, h3, h3a⟩, h4, h5, h6, h7, h8, h9⟩ := h
  obtain ⟨-, k1, hf⟩ := k
  exact ⟨⟨k1, cstA_fr h2 (fun i a1 a2 => hf i (by omega)), ⟨ac, isOb_f9 h3 (hf 4 (by decide)), isAc_fr h3a (fun i a1 => hf i (by omega))⟩, isTr_fr h4 (fun i a1 a2 => hf i (by omega)), isPl_fr h5 (fun i a1 a2 => hf i (by omega)), isSh_fr h6 (fun i a1 a2 => hf i (by omega)), isHe_fr h7 (fun i a1 a2 => hf i (by omega)), isTa_fr h8 (fun i a1 a2 => hf i (by omega)), (hf 87 (by decide)).trans h9⟩, fun i hi => hf i (by omega)⟩
theorem cSt_Kt (h : cSt μ ((κ, κ', kf), τ, σ, (R, rw), (b, ln, tk), (tc, tr))) (k : cKt μ (a, κ2) r μ') : cSt μ' ((κ2, κ', kf), τ, σ, (R, rw), (b, ln, tk), (tc, tr)) ∧ ∀ i, 88 ≤ i → μ' i = μ i := by
  obtain ⟨h1, h2, ⟨ac, h3, h3a⟩, h4, h5, h6, h7, h8, h9⟩ := h
  obtain ⟨-, k1, k2, hf⟩ := k
  exact ⟨⟨k1, cstA_fr h2 (fun i a1 a2 => hf i (by omega)), ⟨ac, isOb_f9 h3 (hf 4 (by decide)), isAc_fr h3a (fun i a1 => hf i (by omega))⟩, k2, isPl_fr h5 (fun i a1 a2 => hf i (by omega)), isSh_fr h6 (fun i a1 a2 => hf i (by omega)), isHe_fr h7 (fun i a1 a2 => hf i (by omega)), isTa_fr h8 (fun i a1 a2 => hf i (by omega)), (hf 87 (by decide)).trans h9⟩, fun i hi => hf i (by omega)⟩
theorem cSt_Kp (h : cSt μ ((κ, κ', kf), τ, σ, (R, rw), (b, ln, tk), (tc, tr))) (k : cKp μ κ a R2 rw2 r μ') : cSt μ' ((κ, κ', kf), τ, σ, (R2, rw2), (b, ln, tk), (tc, tr)) ∧ ∀ i, 88 ≤ i → μ' i = μ i := by
  obtain ⟨h1, h2, ⟨ac, h3, h3a⟩, h4, h5, h6, h7, h8, h9⟩ := h
  obtain ⟨-, k1, hf⟩ := k
  exact ⟨⟨cst_fr h1 (fun i a1 a2 => hf i (by omega)), cstA_fr h2 (fun i a1 a2 => hf i (by omega)), ⟨ac, isOb_f9 h3 (hf 4 (by decide)), isAc_fr h3a (fun i a1 => hf i (by omega))⟩, isTr_fr h4 (fun i a1 a2 => hf i (by omega)), k1, isSh_fr h6 (fun i a1 a2 => hf i (by omega)), isHe_fr h7 (fun i a1 a2 => hf i (by omega)), isTa_fr h8 (fun i a1 a2 => hf i (by omega)), (hf 87 (by decide)).trans h9⟩, fun i hi => hf i (by omega)⟩
theorem cSt_Ks (h : cSt μ ((κ, κ', kf), τ, σ, (R, rw), (b, ln, tk), (tc, tr))) (k : cKs μ (a, τ2) r μ') : cSt μ' ((κ, κ', kf), τ2, σ, (R, rw), (b, ln, tk), (tc, tr)) ∧ ∀ i, 88 ≤ i → μ' i = μ i := by
  obtain ⟨h1, h2, ⟨ac, h3, h3a⟩, h4, h5, h6, h7, h8, h9⟩ := h
  obtain ⟨-, k1, hf⟩ := k
  exact ⟨⟨cst_fr h1 (fun i a1 a2 => hf i (by omega)), cstA_fr h2 (fun i a1 a2 => hf i (by omega)), ⟨ac, isOb_f9 h3 (hf 4 (by decide)), isAc_fr h3a (fun i a1 => hf i (by omega))⟩, isTr_fr h4 (fun i a1 a2 => hf i (by omega)), isPl_fr h5 (fun i a1 a2 => hf i (by omega)), k1, isHe_fr h7 (fun i a1 a2 => hf i (by omega)), isTa_fr h8 (fun i a1 a2 => hf i (by omega)), (hf 87 (by decide)).trans h9⟩, fun i hi => hf i (by omega)⟩
theorem cSt_Kh (h : cSt μ ((κ, κ', kf), τ, σ, (R, rw), (b, ln, tk), (tc, tr))) (k : cKh μ (a, σ2) r μ') : cSt μ' ((κ, κ', kf), τ, σ2, (R, rw), (b, ln, tk), (tc, tr)) ∧ ∀ i, 88 ≤ i → μ' i = μ i := by
  obtain ⟨h1, h2, ⟨ac, h3, h3a⟩, h4, h5, h6, h7, h8, h9⟩ := h
  obtain ⟨-, k1, hf⟩ := k
  exact ⟨⟨cst_fr h1 (fun i a1 a2 => hf i (by omega)), cstA_fr h2 (fun i a1 a2 => hf i (by omega)), ⟨ac, isOb_f9 h3 (hf 4 (by decide)), isAc_fr h3a (fun i a1 => hf i (by omega))⟩, isTr_fr h4 (fun i a1 a2 => hf i (by omega)), isPl_fr h5 (fun i a1 a2 => hf i (by omega)), isSh_fr h6 (fun i a1 a2 => hf i (by omega)), k1, isTa_fr h8 (fun i a1 a2 => hf i (by omega)), (hf 87 (by decide)).trans h9⟩, fun i hi => hf i (by omega)⟩
theorem cSt_Fd (h : cSt μ ((κ, κ', kf), τ, σ, (R, rw), (b, ln, tk), (tc, tr))) (k : cFd μ tk (a, b2, ln2) r μ') : cSt μ' ((κ, κ', kf), τ, σ, (R, rw), (b2, ln2, tk), (tc, tr)) ∧ ∀ i, 88 ≤ i → μ' i = μ i := by
  obtain ⟨h1, h2, ⟨ac, h3, h3a⟩, h4, h5, h6, h7, h8, h9⟩ := h
  obtain ⟨-, k1, hf⟩ := k
  exact ⟨⟨cst_fr h1 (fun i a1 a2 => hf i (by omega) (by omega)), cstA_fr h2 (fun i a1 a2 => hf i (by omega) (by omega)), ⟨ac, isOb_f9 h3 (hf 4 (by decide) (by decide)), isAc_fr h3a (fun i a1 => hf i (by omega) (by omega))⟩, isTr_fr h4 (fun i a1 a2 => hf i (by omega) (by omega)), isPl_fr h5 (fun i a1 a2 => hf i (by omega) (by omega)), isSh_fr h6 (fun i a1 a2 => hf i (by omega) (by omega)), isHe_fr h7 (fun i a1 a2 => hf i (by omega) (by omega)), k1, (hf 87 (by decide) (by decide)).trans h9⟩, fun i hi => hf i (by omega) (by omega)⟩
theorem cSt_Ru {tk2 : Nat → Nat} (h : cSt μ ((κ, κ', kf), τ, σ, (R, rw), (b, ln, tk), (tc, tr))) (k : cRu μ b tk2 (a, κ2) r μ') : cSt μ' ((κ2, κ', kf), τ, σ, (R, rw), (b, 0, tk2), (tc, tr)) ∧ ∀ i, 88 ≤ i → μ' i = μ i := by
  obtain ⟨h1, h2, ⟨ac, h3, h3a⟩, h4, h5, h6, h7, h8, h9⟩ := h
  obtain ⟨-, k1, k2, hf⟩ := k
  exact ⟨⟨k1, cstA_fr h2 (fun i a1 a2 => hf i (by omega)), ⟨ac, isOb_f9 h3 (hf 4 (by decide)), isAc_fr h3a (fun i a1 => hf i (by omega))⟩, isTr_fr h4 (fun i a1 a2 => hf i (by omega)), isPl_fr h5 (fun i a1 a2 => hf i (by omega)), isSh_fr h6 (fun i a1 a2 => hf i (by omega)), isHe_fr h7 (fun i a1 a2 => hf i (by omega)), k2, (hf 87 (by decide)).trans h9⟩, fun i hi => hf i (by omega)⟩
/-- the reference's -/
theorem mSt_K (h : mSs μ s ((κ, κ', kf), τ, σ, (R, rw), (b, ln, tk), (tc, tr))) (k : mK μ s (a, κ2) r μ') : mSt μ' ((κ2, κ', kf), τ, σ, (R, rw), (b, ln, tk), (tc, tr)) ∧ ∀ i, (i < 88 ∨ 105 < i) → μ' i = μ i := by
  obtain ⟨h1, h2, h3, h4, h5, h6, h7, h8, h9⟩ := h
  obtain ⟨-, s', ⟨e3, e5, e23, e32⟩, k1, hf⟩ := k
  exact ⟨⟨s', k1, mkp_fr9 h2 e3 (hf 90 (by decide)), ⟨e23.trans h3.1, (hf 98 (by decide)).trans h3.2.1, h3.2.2⟩, e5.trans h4, (hf 92 (by decide)).trans h5, isShM_fr9 h6 (fun i a1 a2 => hf i (by omega)), isHeM_fr9 h7 (fun i a1 a2 => hf i (by omega)), e32.trans h8, (hf 105 (by decide)).trans h9⟩, fun i hi => hf i (by omega)⟩
theorem mSt_Kr (h : mSs μ s ((κ, κ', kf), τ, σ, (R, rw), (b, ln, tk), (tc, tr))) (k : mKr μ s κ a R2 rw2 r μ') : mSt μ' ((κ, κ', kf), τ, σ, (R2, rw2), (b, ln, tk), (tc, tr)) ∧ ∀ i, (i < 88 ∨ 105 < i) → μ' i = μ i := by
  obtain ⟨h1, h2, h3, h4, h5, h6, h7, h8, h9⟩ := h
  obtain ⟨-, s', ⟨e3, e5, e32⟩, k1, k2, hf⟩ := k
  exact ⟨⟨s', k1, mkp_fr9 h2 e3 (hf 90 (by decide)), k2, e5.trans h4, (hf 92 (by decide)).trans h5, isShM_fr9 h6 (fun i a1 a2 => hf i (by omega)), isHeM_fr9 h7 (fun i a1 a2 => hf i (by omega)), e32.trans h8, (hf 105 (by decide)).trans h9⟩, fun i hi => hf i (by omega)⟩
theorem mSt_Ks (h : mSs μ s ((κ, κ', kf), τ, σ, (R, rw), (b, ln, tk), (tc, tr))) (k : mKs μ (a, τ2) r μ') : mSt μ' ((κ, κ', kf), τ2, σ, (R, rw), (b, ln, tk), (tc, tr)) ∧ ∀ i, (i < 88 ∨ 105 < i) → μ' i = μ i := by
  obtain ⟨h1, h2, h3, h4, h5, h6, h7, h8, h9⟩ := h
  obtain ⟨-, k1, hf⟩ := k
  exact ⟨⟨s, mst_fr h1 (fun i a1 a2 _ _ => hf i (by omega)), mkp_fr9 h2 rfl (hf 90 (by decide)), ⟨h3.1, (hf 98 (by decide)).trans h3.2.1, h3.2.2⟩, h4, (hf 92 (by decide)).trans h5, k1, isHeM_fr9 h7 (fun i a1 a2 => hf i (by omega)), h8, (hf 105 (by decide)).trans h9⟩, fun i hi => hf i (by omega)⟩
theorem mSt_Kh (h : mSs μ s ((κ, κ', kf), τ, σ, (R, rw), (b, ln, tk), (tc, tr))) (k : mKh μ (a, σ2) r μ') : mSt μ' ((κ, κ', kf), τ, σ2, (R, rw), (b, ln, tk), (tc, tr)) ∧ ∀ i, (i < 88 ∨ 105 < i) → μ' i = μ i := by
  obtain ⟨h1, h2, h3, h4, h5, h6, h7, h8, h9⟩ := h
  obtain ⟨-, k1, hf⟩ := k
  exact ⟨⟨s, mst_fr h1 (fun i a1 a2 _ _ => hf i (by omega)), mkp_fr9 h2 rfl (hf 90 (by decide)), ⟨h3.1, (hf 98 (by decide)).trans h3.2.1, h3.2.2⟩, h4, (hf 92 (by decide)).trans h5, isShM_fr9 h6 (fun i a1 a2 => hf i (by omega)), k1, h8, (hf 105 (by decide)).trans h9⟩, fun i hi => hf i (by omega)⟩
theorem mSt_Fd (h : mSs μ s ((κ, κ', kf), τ, σ, (R, rw), (b, ln, tk), (tc, tr))) (k : mFd μ s κ (a, b2, ln2) r μ') : mSt μ' ((κ, κ', kf), τ, σ, (R, rw), (b2, ln2, tk), (tc, tr)) ∧ ∀ i, (i < 88 ∨ 105 < i) → μ' i = μ i := by
  obtain ⟨h1, h2, h3, h4, h5, h6, h7, h8, h9⟩ := h
  obtain ⟨-, s', ⟨e3, e5, e23, e32⟩, k1, k2, hf⟩ := k
  exact ⟨⟨s', k1, mkp_fr9 h2 e3 (hf 90 (by decide) (by decide)), ⟨e23.trans h3.1, (hf 98 (by decide) (by decide)).trans h3.2.1, h3.2.2⟩, e5, k2, isShM_fr9 h6 (fun i a1 a2 => hf i (by omega) (by omega)), isHeM_fr9 h7 (fun i a1 a2 => hf i (by omega) (by omega)), e32.trans h8, (hf 105 (by decide) (by decide)).trans h9⟩, fun i hi => hf i (by omega) (by omega)⟩
theorem mSt_Ru {tk2 : Nat → Nat} (h : mSs μ s ((κ, κ', kf), τ, σ, (R, rw), (b, ln, tk), (tc, tr))) (k : mRu μ s (a, κ2) r μ') : mSt μ' ((κ2, κ', kf), τ, σ, (R, rw), (b, 0, tk2), (tc, tr)) ∧ ∀ i, (i < 88 ∨ 105 < i) → μ' i = μ i := by
  obtain ⟨h1, h2, h3, h4, h5, h6, h7, h8, h9⟩ := h
  obtain ⟨-, s', ⟨e3, e5, e23, e32⟩, k1, hf⟩ := k
  exact ⟨⟨s', k1, mkp_fr9 h2 e3 (hf 90 (by decide)), ⟨e23.trans h3.1, (hf 98 (by decide)).trans h3.2.1, h3.2.2⟩, e5, (hf 92 (by decide)).trans h5, isShM_fr9 h6 (fun i a1 a2 => hf i (by omega)), isHeM_fr9 h7 (fun i a1 a2 => hf i (by omega)), e32.trans h8, (hf 105 (by decide)).trans h9⟩, fun i hi => hf i (by omega)⟩
theorem mSt_Ka {tc2 : Nat} {tr2 : Nat → Int32} (h : mSs μ s ((κ, κ', kf), τ, σ, (R, rw), (b, ln, tk), (tc, tr))) (k : mKa μ s κ a tc2 tr2 r μ') : mSt μ' ((κ, κ', kf), τ, σ, (R, rw), (b, ln, tk), (tc2, tr2)) ∧ ∀ i, (i < 88 ∨ 105 < i) → μ' i = μ i := by
  obtain ⟨h1, h2, h3, h4, h5, h6, h7, h8, h9⟩ := h
  obtain ⟨-, s', ⟨e3, e5, e23⟩, k1, k2, k3, hf⟩ := k
  exact ⟨⟨s', k1, mkp_fr9 h2 e3 (hf 90 (by decide) (by decide)), ⟨e23.trans h3.1, (hf 98 (by decide) (by decide)).trans h3.2.1, h3.2.2⟩, e5.trans h4, (hf 92 (by decide) (by decide)).trans h5, isShM_fr9 h6 (fun i a1 a2 => hf i (by omega) (by omega)), isHeM_fr9 h7 (fun i a1 a2 => hf i (by omega) (by omega)), k2, k3⟩, fun i hi => hf i (by omega) (by omega)⟩
end STEP
