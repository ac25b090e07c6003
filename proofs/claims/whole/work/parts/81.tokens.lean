/-! ===== the text's tokens: pure ===== -/
def WDl : List Nat := [103, 105, 114, 108, 32, 32, 32, 115, 104, 97, 114, 101, 100, 32, 98, 114, 101, 100, 32, 32, 32, 116, 119, 105, 99, 101, 32, 32, 108, 97, 116, 101, 32, 32, 32, 99, 97, 108, 109, 32, 32, 32, 119, 97, 105, 116, 32, 32, 32, 116, 117, 114, 110, 32, 32, 32, 108, 101, 97, 118, 101, 32, 32, 105, 102, 32, 32, 32, 32, 32, 111, 114, 32, 32, 32, 32, 32, 97, 110, 100, 32, 32, 32, 32, 110, 111, 116, 32, 32, 32, 32, 109, 111, 110, 116, 104, 32, 32, 102, 97, 105, 116, 104, 32, 32, 100, 111, 119, 114, 121, 32, 32, 104, 111, 117, 115, 101, 32, 32, 110, 117, 109, 98, 101, 114, 32]
def NDl : List Nat := [103, 105, 114, 108, 0, 0, 115, 104, 97, 114, 101, 100, 98, 114, 101, 100, 0, 0, 116, 119, 105, 99, 101, 0, 108, 97, 116, 101, 0, 0, 99, 97, 108, 109, 0, 0, 119, 97, 105, 116, 0, 0, 116, 117, 114, 110, 0, 0, 108, 101, 97, 118, 101, 0, 109, 111, 110, 116, 104, 0, 102, 97, 105, 116, 104, 0, 100, 111, 119, 114, 121, 0, 104, 111, 117, 115, 101, 0, 110, 117, 109, 98, 101, 114, 105, 102, 0, 0, 0, 0, 111, 114, 0, 0, 0, 0, 97, 110, 100, 0, 0, 0, 110, 111, 116, 0, 0, 0]
def lWl : List Nat := [4, 6, 4, 5, 4, 4, 4, 4, 5, 2, 2, 3, 3, 5, 5, 5, 5, 6]
def lNl : List Nat := [4, 6, 4, 5, 4, 4, 4, 4, 5, 5, 5, 5, 5, 6, 2, 2, 3, 3]
def WD (i : Nat) : Nat := WDl.getD i 0
def ND (i : Nat) : Nat := NDl.getD i 0
def lnW (w : Nat) : Nat := lWl.getD w 0
def lnN (w : Nat) : Nat := lNl.getD w 0
theorem nam_ND : ∀ j, j < 108 → zNam.getD j 0 = nI (ND j) := by decide +kernel
abbrev isL (c : Nat) : Prop := 97 ≤ c ∧ c ≤ 122
abbrev isD (c : Nat) : Prop := 48 ≤ c ∧ c ≤ 57
theorem WD_1 : ∀ w, w < 18 → ∀ n, n < 7 → (∀ i, i < n → isL (WD (7 * w + i))) → WD (7 * w + n) = 32 → n = lnW w := by decide +kernel
theorem WD_2 : ∀ w, w < 18 → WD (7 * w + lnW w) = 32 ∧ lnW w ≤ 6 := by decide +kernel
theorem ND_1 : ∀ w, w < 18 → ∀ n, n < 7 → (∀ i, i < n → isL (ND (6 * w + i))) → (n = 6 ∨ ND (6 * w + n) = 0) → n = lnN w := by decide +kernel
theorem ND_2 : ∀ w, w < 18 → (lnN w = 6 ∨ ND (6 * w + lnN w) = 0) ∧ lnN w ≤ 6 := by decide +kernel
theorem WN_1 : ∀ w, w < 18 → mtk w < 18 ∧ lnN (mtk w) = lnW w ∧ ∀ i, i < lnW w → ND (6 * mtk w + i) = WD (7 * w + i) := by decide +kernel
theorem WN_2 : ∀ v, v < 18 → ∃ w, w < 18 ∧ mtk w = v := by decide +kernel
theorem ND_u : ∀ v, v < 18 → ∀ w, w < 18 → lnN v = lnN w → (∀ i, i < lnN v → ND (6 * v + i) = ND (6 * w + i)) → v = w := by decide +kernel
abbrev mWd (b : Nat → Nat) (q n w : Nat) : Prop := n = lnW w ∧ ∀ i, i < n → b (q + i) = WD (7 * w + i)
abbrev mNd (b : Nat → Nat) (q n w : Nat) : Prop := n = lnN w ∧ ∀ i, i < n → b (q + i) = ND (6 * w + i)
def fW (b : Nat → Nat) (q n : Nat) : Nat → Nat → Nat
  | 0, _ => 24
  | k + 1, w => if mWd b q n w then w else fW b q n k (w + 1)
def fN (b : Nat → Nat) (q n : Nat) : Nat → Nat → Nat
  | 0, w => w
  | k + 1, w => if mNd b q n w then w else fN b q n k (w + 1)
theorem fW_s {b : Nat → Nat} {q n : Nat} : ∀ k w, w + k = 18 → (∃ v, w ≤ v ∧ v < 18 ∧ mWd b q n v ∧ fW b q n k w = v) ∨ ((∀ v, w ≤ v → v < 18 → ¬ mWd b q n v) ∧ fW b q n k w = 24)
  | 0, w, e => Or.inr ⟨fun v h1 h2 => by omega, rfl⟩
  | k + 1, w, e => by
    unfold fW
    by_cases h : mWd b q n w
    · rw [if_pos h]
      exact Or.inl ⟨w, Nat.le_refl _, by omega, h, rfl⟩
    · rw [if_neg h]
      rcases fW_s k (w + 1) (by omega) with ⟨v, h1, h2, h3, h4⟩ | ⟨h1, h2⟩
      · exact Or.inl ⟨v, by omega, h2, h3, h4⟩
      · refine Or.inr ⟨fun v g1 g2 => ?_, h2⟩
        by_cases e : v = w
        · subst e; exact h
        · exact h1 v (by omega) g2
theorem fN_s {b : Nat → Nat} {q n : Nat} : ∀ k w, w + k = 18 → (∃ v, w ≤ v ∧ v < 18 ∧ mNd b q n v ∧ fN b q n k w = v) ∨ ((∀ v, w ≤ v → v < 18 → ¬ mNd b q n v) ∧ fN b q n k w = 18)
  | 0, w, e => Or.inr ⟨fun v h1 h2 => by omega, by show w = 18; omega⟩
  | k + 1, w, e => by
    unfold fN
    by_cases h : mNd b q n w
    · rw [if_pos h]
      exact Or.inl ⟨w, Nat.le_refl _, by omega, h, rfl⟩
    · rw [if_neg h]
      rcases fN_s k (w + 1) (by omega) with ⟨v, h1, h2, h3, h4⟩ | ⟨h1, h2⟩
      · exact Or.inl ⟨v, by omega, h2, h3, h4⟩
      · refine Or.inr ⟨fun v g1 g2 => ?_, h2⟩
        by_cases e : v = w
        · subst e; exact h
        · exact h1 v (by omega) g2
theorem mWN {b : Nat → Nat} {q n w : Nat} (hw : w < 18) : mWd b q n w ↔ mNd b q n (mtk w) := by
  obtain ⟨h1, h2, h3⟩ := WN_1 w hw
  unfold mWd mNd
  rw [h2]
  exact ⟨fun z => ⟨z.1, fun i hi => by rw [z.2 i hi, h3 i (by have := z.1; omega)]⟩, fun z => ⟨z.1, fun i hi => by rw [z.2 i hi, h3 i (by have := z.1; omega)]⟩⟩
/-- the reference finds the same word -/
theorem fNW {b : Nat → Nat} {q n : Nat} : (if fN b q n 18 0 < 18 then fN b q n 18 0 else 26) = mtk (fW b q n 18 0) := by
  rcases fW_s (b := b) (q := q) (n := n) 18 0 (by omega) with ⟨w, -, h2, h3, h4⟩ | ⟨h1, h2⟩
  · rcases fN_s (b := b) (q := q) (n := n) 18 0 (by omega) with ⟨v, -, g2, g3, g4⟩ | ⟨g1, g2⟩
    · rw [h4, g4, if_pos g2]
      have h5 := (mWN h2).mp h3
      exact ND_u v g2 (mtk w) (WN_1 w h2).1 (g3.1.symm.trans h5.1) (fun i hi => by rw [← g3.2 i (by have := g3.1; omega), ← h5.2 i (by have := g3.1; omega)])
    · exact absurd ((mWN h2).mp h3) (g1 _ (Nat.zero_le _) (WN_1 w h2).1)
  · rcases fN_s (b := b) (q := q) (n := n) 18 0 (by omega) with ⟨v, -, g2, g3, g4⟩ | ⟨g1, g2⟩
    · obtain ⟨w, e1, e2⟩ := WN_2 v g2
      subst e2
      exact absurd ((mWN e1).mpr g3) (h1 w (Nat.zero_le _) e1)
    · rw [h2, g2, if_neg (by decide)]
      rfl
abbrev gon (b : Nat → Nat) (i : Nat) : Prop := i ≠ 0 ∧ ((isL (b (i - 1)) ∧ isL (b i)) ∨ (isD (b (i - 1)) ∧ isD (b i)))
abbrev stt (b : Nat → Nat) (i : Nat) : Prop := b i ≠ 32 ∧ ¬ gon b i
def nx (b : Nat → Nat) : Nat → Nat → Nat
  | 0, p => p
  | k + 1, p => if stt b p then p else nx b k (p + 1)
def nd (b : Nat → Nat) : Nat → Nat → Nat
  | 0, p => p
  | k + 1, p => if gon b p then nd b k (p + 1) else p
def sk (b : Nat → Nat) : Nat → Nat → Nat
  | 0, p => p
  | k + 1, p => if b p = 32 then sk b k (p + 1) else p
def tpF (b : Nat → Nat) (ln : Nat) : Nat → Nat
  | 0 => nx b ln 0
  | j + 1 => nx b (ln - (tpF b ln j + 1)) (tpF b ln j + 1)
def enF (b : Nat → Nat) (ln q : Nat) : Nat := nd b (ln - (q + 1)) (q + 1)
def nuF (b : Nat → Nat) (q : Nat) : Nat → Nat
  | 0 => 0
  | i + 1 => 10 * nuF b q i + (b (q + i) - 48)
def syF (c : Nat) : Nat := if c = 59 then 18 else if c = 40 then 19 else if c = 41 then 20 else if c = 60 then 21 else if c = 61 then 22 else if c = 62 then 23 else 24
def tkF (b : Nat → Nat) (ln q : Nat) : Nat := if isL (b q) then fW b q (enF b ln q - q) 18 0 else if isD (b q) then (if 4 < enF b ln q - q then 24 else 100 + nuF b q (enF b ln q - q)) else syF (b q)
theorem nx_b {b : Nat → Nat} : ∀ k p, p ≤ nx b k p ∧ nx b k p ≤ p + k ∧ (nx b k p < p + k → stt b (nx b k p))
  | 0, p => ⟨Nat.le_refl _, Nat.le_refl _, fun h => absurd h (Nat.lt_irrefl _)⟩
  | k + 1, p => by
    unfold nx
    by_cases h : stt b p
    · rw [if_pos h]
      exact ⟨Nat.le_refl _, by omega, fun _ => h⟩
    · rw [if_neg h]
      obtain ⟨h1, h2, h3⟩ := nx_b (b := b) k (p + 1)
      exact ⟨by omega, by omega, fun z => h3 (by omega)⟩
theorem nd_b {b : Nat → Nat} : ∀ k p, p ≤ nd b k p ∧ nd b k p ≤ p + k ∧ (nd b k p < p + k → ¬ gon b (nd b k p)) ∧ ∀ i, p ≤ i → i < nd b k p → gon b i
  | 0, p => ⟨Nat.le_refl _, Nat.le_refl _, fun h => absurd h (Nat.lt_irrefl _), fun i h1 h2 => absurd h2 (by show ¬ i < p; omega)⟩
  | k + 1, p => by
    unfold nd
    by_cases h : gon b p
    · rw [if_pos h]
      obtain ⟨h1, h2, h3, h4⟩ := nd_b (b := b) k (p + 1)
      refine ⟨by omega, by omega, fun z => h3 (by omega), fun i g1 g2 => ?_⟩
      by_cases e : i = p
      · subst e; exact h
      · exact h4 i (by omega) g2
    · rw [if_neg h]
      exact ⟨Nat.le_refl _, by omega, fun _ => h, fun i h1 h2 => by omega⟩
theorem nx_nd {b : Nat → Nat} : ∀ k p, nx b k p = nx b (k - (nd b k p - p)) (nd b k p)
  | 0, p => by
    show p = nx b (0 - (p - p)) p
    rw [Nat.sub_self]
    rfl
  | k + 1, p => by
    unfold nd
    by_cases h : gon b p
    · rw [if_pos h]
      obtain ⟨h1, h2, -, -⟩ := nd_b (b := b) k (p + 1)
      rw [show nx b (k + 1) p = nx b k (p + 1) from if_neg (fun z => z.2 h), nx_nd k (p + 1)]
      rw [show k + 1 - (nd b k (p + 1) - p) = k - (nd b k (p + 1) - (p + 1)) by omega]
    · rw [if_neg h, Nat.sub_self, Nat.sub_zero]
theorem nx_sk {b : Nat → Nat} : ∀ k p, (0 < k → ¬ gon b p) → nx b k p = sk b k p
  | 0, p, _ => rfl
  | k + 1, p, h => by
    unfold nx sk
    by_cases e : b p = 32
    · rw [if_pos e, if_neg (fun z => z.1 e)]
      refine nx_sk k (p + 1) (fun _ z => ?_)
      rcases z.2 with q | q
      · have := q.1; rw [show p + 1 - 1 = p from rfl, e] at this; omega
      · have := q.1; rw [show p + 1 - 1 = p from rfl, e] at this; omega
    · rw [if_neg e, if_pos ⟨e, h (by omega)⟩]
/-- from a token's end the spaces lead to the next one -/
theorem tp_sk {b : Nat → Nat} {ln q : Nat} (hq : q < ln) : sk b (ln - enF b ln q) (enF b ln q) = nx b (ln - (q + 1)) (q + 1) := by
  obtain ⟨h1, h2, h3, -⟩ := nd_b (b := b) (ln - (q + 1)) (q + 1)
  rw [nx_nd (ln - (q + 1)) (q + 1)]
  show sk b (ln - nd b (ln - (q + 1)) (q + 1)) (nd b (ln - (q + 1)) (q + 1)) = _
  rw [show ln - (q + 1) - (nd b (ln - (q + 1)) (q + 1) - (q + 1)) = ln - nd b (ln - (q + 1)) (q + 1) by omega]
  exact (nx_sk _ _ (fun z => h3 (by omega))).symm
theorem tp_sk0 {b : Nat → Nat} {ln : Nat} : sk b (ln - 0) 0 = tpF b ln 0 := (nx_sk ln 0 (fun _ z => z.1 rfl)).symm
/-- how many tokens there are -/
theorem exN (b : Nat → Nat) (ln : Nat) : ∀ k p c, p + k = ln → tpF b ln c = nx b k p → (∀ j, j < c → tpF b ln j < ln) → c ≤ p → ∃ N, N ≤ ln ∧ tpF b ln N = ln ∧ ∀ j, j < N → tpF b ln j < ln
  | 0, p, c, e, h, g, hc => ⟨c, by omega, by rw [h]; exact e, g⟩
  | k + 1, p, c, e, h, g, hc => by
    by_cases q : stt b p
    · have ep : tpF b ln c = p := by rw [h]; exact if_pos q
      refine exN b ln k (p + 1) (c + 1) (by omega) ?_ (fun j hj => ?_) (by omega)
      · show nx b (ln - (tpF b ln c + 1)) (tpF b ln c + 1) = _
        rw [ep, show ln - (p + 1) = k by omega]
      · by_cases e2 : j = c
        · subst e2; omega
        · exact g j (by omega)
    · exact exN b ln k (p + 1) c (by omega) (by rw [h]; exact if_neg q) g (by omega)
noncomputable def NF (b : Nat → Nat) (ln : Nat) : Nat := Classical.choose (exN b ln ln 0 0 (by omega) rfl (fun _ h => absurd h (Nat.not_lt_zero _)) (Nat.le_refl _))
theorem NF_s (b : Nat → Nat) (ln : Nat) : NF b ln ≤ ln ∧ tpF b ln (NF b ln) = ln ∧ ∀ j, j < NF b ln → tpF b ln j < ln := Classical.choose_spec (exN b ln ln 0 0 (by omega) rfl (fun _ h => absurd h (Nat.not_lt_zero _)) (Nat.le_refl _))
noncomputable def tcF (b : Nat → Nat) (ln : Nat) (tk : Nat → Nat) (j : Nat) : Nat := if j < NF b ln then tkF b ln (tpF b ln j) else if j = NF b ln then 25 else tk j
noncomputable def teF (b : Nat → Nat) (ln j : Nat) : Nat := if j < NF b ln then enF b ln (tpF b ln j) else ln
theorem tp_st {b : Nat → Nat} {ln j : Nat} (h : j < NF b ln) : stt b (tpF b ln j) := by
  have hl := (NF_s b ln).2.2 j h
  cases j with
  | zero => exact (nx_b ln 0).2.2 (by rw [Nat.zero_add]; exact hl)
  | succ j =>
    have hj := (NF_s b ln).2.2 j (by omega)
    refine (nx_b (ln - (tpF b ln j + 1)) (tpF b ln j + 1)).2.2 ?_
    rw [show tpF b ln j + 1 + (ln - (tpF b ln j + 1)) = ln by omega]
    exact hl
/-- the run of letters, of digits -/
theorem run_L {b : Nat → Nat} {ln q : Nat} (hq : isL (b q)) : ∀ i, q + i < enF b ln q → isL (b (q + i))
  | 0, _ => hq
  | i + 1, h => by
    have h0 := run_L (ln := ln) hq i (by omega)
    obtain ⟨-, -, -, h4⟩ := nd_b (b := b) (ln - (q + 1)) (q + 1)
    have g := (h4 (q + (i + 1)) (by omega) h).2
    rw [show q + (i + 1) - 1 = q + i by omega] at g
    rcases g with g | g
    · exact g.2
    · have := g.1; omega
theorem run_D {b : Nat → Nat} {ln q : Nat} (hq : isD (b q)) : ∀ i, q + i < enF b ln q → isD (b (q + i))
  | 0, _ => hq
  | i + 1, h => by
    have h0 := run_D (ln := ln) hq i (by omega)
    obtain ⟨-, -, -, h4⟩ := nd_b (b := b) (ln - (q + 1)) (q + 1)
    have g := (h4 (q + (i + 1)) (by omega) h).2
    rw [show q + (i + 1) - 1 = q + i by omega] at g
    rcases g with g | g
    · have := g.1; omega
    · exact g.2
theorem enF_b {b : Nat → Nat} {ln q : Nat} (hq : q < ln) : q + 1 ≤ enF b ln q ∧ enF b ln q ≤ ln := by
  obtain ⟨h1, h2, -, -⟩ := nd_b (b := b) (ln - (q + 1)) (q + 1)
  exact ⟨h1, by unfold enF; omega⟩
theorem enF_s {b : Nat → Nat} {ln q : Nat} (h1 : ¬ isL (b q)) (h2 : ¬ isD (b q)) : enF b ln q = q + 1 := by
  have hg : ¬ gon b (q + 1) := fun z => by
    rcases z.2 with g | g
    · exact h1 g.1
    · exact h2 g.1
  unfold enF
  cases ln - (q + 1) with
  | zero => rfl
  | succ k => exact if_neg hg
theorem nuF_b {b : Nat → Nat} {q : Nat} : ∀ i, (∀ j, j < i → isD (b (q + j))) → nuF b q i < 10 ^ i
  | 0, _ => by show 0 < 1; decide
  | i + 1, h => by
    have h0 := nuF_b i (fun j hj => h j (by omega))
    have h1 := h i (by omega)
    show 10 * nuF b q i + (b (q + i) - 48) < 10 ^ (i + 1)
    rw [Nat.pow_succ]
    omega
theorem syF_b (c : Nat) : 18 ≤ syF c ∧ syF c ≤ 24 := by
  unfold syF
  repeat' split
  all_goals omega
theorem fW_b {b : Nat → Nat} {q n : Nat} : fW b q n 18 0 ≤ 24 := by
  rcases fW_s (b := b) (q := q) (n := n) 18 0 (by omega) with ⟨w, -, h2, -, h4⟩ | ⟨-, h2⟩ <;> omega
theorem tkF_v {b : Nat → Nat} {ln q : Nat} : vc (tkF b ln q) := by
  unfold tkF
  split
  · have := fW_b (b := b) (q := q) (n := enF b ln q - q)
    exact ⟨by omega, Or.inl (by omega)⟩
  · split
    · rename_i hd
      split
      · exact ⟨by omega, Or.inl (by omega)⟩
      · rename_i h4
        have h := nuF_b (b := b) (q := q) (enF b ln q - q) (fun j hj => run_D (ln := ln) hd j (by omega))
        have h2 : 10 ^ (enF b ln q - q) ≤ 10 ^ 4 := Nat.pow_le_pow_right (by decide) (by omega)
        exact ⟨by omega, Or.inr (by omega)⟩
    · have := syF_b (b q)
      exact ⟨by omega, Or.inl (by omega)⟩
theorem tcF_T {b tk : Nat → Nat} {ln : Nat} (hl : ln ≤ 200) (hk : ∀ j, vc (tk j)) : iTk (tcF b ln tk) (NF b ln) := by
  refine ⟨Nat.le_trans (NF_s b ln).1 hl, ?_, fun j => ?_⟩
  · rw [tcF, if_neg (Nat.lt_irrefl _), if_pos rfl]
  · show vc (tcF b ln tk j)
    unfold tcF
    split
    · exact tkF_v
    · split
      · exact ⟨by decide, Or.inl (by decide)⟩
      · exact hk j
