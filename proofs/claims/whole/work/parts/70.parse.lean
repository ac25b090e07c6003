/-! ===== how tokens are read as rules: pure. tc: the tokens' codes as the class has them; place N is the END (25) ===== -/
abbrev zR9 : Type := Nat × Bool × zI × zI
def ntC (tc : Nat → Nat) : Nat → Nat → Nat
  | 0, _ => 0
  | F + 1, j => if tc j = 12 then ntC tc F (j + 1) + 1 else 0
def nts : Nat → zI
  | 0 => []
  | k + 1 => (12, 0, 0) :: nts k
def opB (c : Nat) : Bool := (decide (13 ≤ c) && decide (c ≤ 17)) || (decide (100 ≤ c) && decide (c ≤ 10099))
theorem opB_t {c : Nat} : opB c = true ↔ opv c := by simp [opB, opv]
def sgB (c : Nat) : Bool := decide (21 ≤ c) && decide (c ≤ 23)
theorem sgB_t {c : Nat} : sgB c = true ↔ (21 ≤ c ∧ c ≤ 23) := by simp [sgB]
def fl9 (j : Nat) : zR9 := (j, false, [], [])
def cmpR (tc : Nat → Nat) (j k : Nat) : zR9 :=
  if opB (tc j) = true then (if sgB (tc (j + 1)) = true then (if opB (tc (j + 2)) = true then (j + 3, true, (tc (j + 1), tc j, tc (j + 2)) :: nts (k % 2), (tc (j + 1), tc j, tc (j + 2)) :: nts k) else fl9 (j + 2)) else fl9 (j + 1)) else fl9 j
def opR (tc : Nat → Nat) (k : Nat) (r : zR9) : zR9 := if r.2.1 = true then (if tc r.1 = 20 then (r.1 + 1, true, r.2.2.1 ++ nts (k % 2), r.2.2.2 ++ nts k) else fl9 r.1) else fl9 r.1
/-- 0 one, 1 and's behind one, 2 or's behind all, 3 a condition, 4 all; L: how many "(" may yet open -/
def pP (tc : Nat → Nat) : Nat → Nat → Nat → Nat → zI → zI → Option zR9
  | 0, _, _, _, _, _ => none
  | F + 1, t, L, j, ic, im =>
    if t = 0 then (if tc (j + ntC tc 201 j) = 19 ∧ 0 < L then (pP tc F 3 (L - 1) (j + ntC tc 201 j + 1) [] []).bind (fun r => some (opR tc (ntC tc 201 j) r)) else some (cmpR tc (j + ntC tc 201 j) (ntC tc 201 j)))
    else if t = 1 then (if tc j = 11 then (pP tc F 0 L (j + 1) [] []).bind (fun r => if r.2.1 = true then pP tc F 1 L r.1 (ic ++ r.2.2.1 ++ [(11, 0, 0)]) (im ++ r.2.2.2 ++ [(11, 0, 0)]) else some (fl9 r.1)) else some (j, true, ic, im))
    else if t = 2 then (if tc j = 10 then (pP tc F 4 L (j + 1) [] []).bind (fun r => if r.2.1 = true then pP tc F 2 L r.1 (ic ++ r.2.2.1 ++ [(10, 0, 0)]) (im ++ r.2.2.2 ++ [(10, 0, 0)]) else some (fl9 r.1)) else some (j, true, ic, im))
    else if t = 3 then (pP tc F 4 L j [] []).bind (fun r => if r.2.1 = true then pP tc F 2 L r.1 r.2.2.1 r.2.2.2 else some (fl9 r.1))
    else (pP tc F 0 L j [] []).bind (fun r => if r.2.1 = true then pP tc F 1 L r.1 r.2.2.1 r.2.2.2 else some (fl9 r.1))
section PP
variable {tc : Nat → Nat} {F L j : Nat} {ic im : zI} {R : zR9}
theorem pP_0 : pP tc (F + 1) 0 L j ic im = (if tc (j + ntC tc 201 j) = 19 ∧ 0 < L then (pP tc F 3 (L - 1) (j + ntC tc 201 j + 1) [] []).bind (fun r => some (opR tc (ntC tc 201 j) r)) else some (cmpR tc (j + ntC tc 201 j) (ntC tc 201 j))) := rfl
theorem pP_1 : pP tc (F + 1) 1 L j ic im = (if tc j = 11 then (pP tc F 0 L (j + 1) [] []).bind (fun r => if r.2.1 = true then pP tc F 1 L r.1 (ic ++ r.2.2.1 ++ [(11, 0, 0)]) (im ++ r.2.2.2 ++ [(11, 0, 0)]) else some (fl9 r.1)) else some (j, true, ic, im)) := rfl
theorem pP_2 : pP tc (F + 1) 2 L j ic im = (if tc j = 10 then (pP tc F 4 L (j + 1) [] []).bind (fun r => if r.2.1 = true then pP tc F 2 L r.1 (ic ++ r.2.2.1 ++ [(10, 0, 0)]) (im ++ r.2.2.2 ++ [(10, 0, 0)]) else some (fl9 r.1)) else some (j, true, ic, im)) := rfl
theorem pP_3 : pP tc (F + 1) 3 L j ic im = (pP tc F 4 L j [] []).bind (fun r => if r.2.1 = true then pP tc F 2 L r.1 r.2.2.1 r.2.2.2 else some (fl9 r.1)) := rfl
theorem pP_4 : pP tc (F + 1) 4 L j ic im = (pP tc F 0 L j [] []).bind (fun r => if r.2.1 = true then pP tc F 1 L r.1 r.2.2.1 r.2.2.2 else some (fl9 r.1)) := rfl
/-- more fuel does no harm -/
theorem pP_up : ∀ (F t L j : Nat) (ic im : zI) (R : zR9), t ≤ 4 → pP tc F t L j ic im = some R → pP tc (F + 1) t L j ic im = some R
  | 0, _, _, _, _, _, _, _, h => by cases h
  | F + 1, t, L, j, ic, im, R, ht, h => by
    rcases (show t = 0 ∨ t = 1 ∨ t = 2 ∨ t = 3 ∨ t = 4 by omega) with e | e | e | e | e <;> subst e
    · rw [pP_0] at h ⊢
      split at h
      · rename_i q
        rw [if_pos q]
        obtain ⟨r, h1, h2⟩ := Option.bind_eq_some_iff.mp h
        rw [pP_up F 3 _ _ _ _ r (by decide) h1]
        exact h2
      · rename_i q
        rw [if_neg q]
        exact h
    · rw [pP_1] at h ⊢
      split at h
      · rename_i q
        rw [if_pos q]
        obtain ⟨r, h1, h2⟩ := Option.bind_eq_some_iff.mp h
        rw [pP_up F 0 _ _ _ _ r (by decide) h1]
        show (if r.2.1 = true then _ else _) = _
        split at h2
        · rename_i w; rw [if_pos w]; exact pP_up F 1 _ _ _ _ R (by decide) h2
        · rename_i w; rw [if_neg w]; exact h2
      · rename_i q
        rw [if_neg q]
        exact h
    · rw [pP_2] at h ⊢
      split at h
      · rename_i q
        rw [if_pos q]
        obtain ⟨r, h1, h2⟩ := Option.bind_eq_some_iff.mp h
        rw [pP_up F 4 _ _ _ _ r (by decide) h1]
        show (if r.2.1 = true then _ else _) = _
        split at h2
        · rename_i w; rw [if_pos w]; exact pP_up F 2 _ _ _ _ R (by decide) h2
        · rename_i w; rw [if_neg w]; exact h2
      · rename_i q
        rw [if_neg q]
        exact h
    · rw [pP_3] at h ⊢
      obtain ⟨r, h1, h2⟩ := Option.bind_eq_some_iff.mp h
      rw [pP_up F 4 _ _ _ _ r (by decide) h1]
      show (if r.2.1 = true then _ else _) = _
      split at h2
      · rename_i w; rw [if_pos w]; exact pP_up F 2 _ _ _ _ R (by decide) h2
      · rename_i w; rw [if_neg w]; exact h2
    · rw [pP_4] at h ⊢
      obtain ⟨r, h1, h2⟩ := Option.bind_eq_some_iff.mp h
      rw [pP_up F 0 _ _ _ _ r (by decide) h1]
      show (if r.2.1 = true then _ else _) = _
      split at h2
      · rename_i w; rw [if_pos w]; exact pP_up F 1 _ _ _ _ R (by decide) h2
      · rename_i w; rw [if_neg w]; exact h2
theorem pP_add {t : Nat} (ht : t ≤ 4) (h : pP tc F t L j ic im = some R) : ∀ k, pP tc (F + k) t L j ic im = some R
  | 0 => h
  | k + 1 => pP_up (F + k) t L j ic im R ht (pP_add ht h k)
end PP
/-- the tokens stand: N of them, then END -/
def iTk (tc : Nat → Nat) (N : Nat) : Prop := N ≤ 200 ∧ tc N = 25 ∧ ∀ j, tc j ≤ 10099 ∧ (tc j ≤ 25 ∨ 100 ≤ tc j)
theorem ntC_le {tc : Nat → Nat} {N : Nat} (h : iTk tc N) : ∀ F j, j ≤ N → j + ntC tc F j ≤ N
  | 0, j, e => e
  | F + 1, j, e => by
    unfold ntC
    split
    · rename_i q
      have hj : j ≠ N := fun z => by rw [z, h.2.1] at q; cases q
      have := ntC_le h F (j + 1) (by omega)
      omega
    · exact e
def wl : zI → Nat
  | [] => 0
  | (o, _, _) :: t => (if o < 21 then 1 else 3) + wl t
theorem wl_app : ∀ a b : zI, wl (a ++ b) = wl a + wl b
  | [], b => by show wl b = 0 + wl b; omega
  | (o, l, r) :: a, b => by
    show (if o < 21 then 1 else 3) + wl (a ++ b) = (if o < 21 then 1 else 3) + wl a + wl b
    rw [wl_app a b]
    omega
theorem wl_nts : ∀ k, wl (nts k) = k
  | 0 => rfl
  | k + 1 => by
    show (if 12 < 21 then 1 else 3) + wl (nts k) = k + 1
    rw [wl_nts k, if_pos (by decide)]
    omega
/-- what a reading comes to, from j at length w before it -/
def pgD (N j w : Nat) (r : zR9) : Prop := r.1 ≤ N ∧ (r.2.1 = true → wl r.2.2.1 + j ≤ w + r.1 ∧ wl r.2.2.2 + j ≤ w + r.1)
theorem cmp_pg {tc : Nat → Nat} {N j k : Nat} (h : iTk tc N) (hj : j + k ≤ N) : pgD N j 0 (cmpR tc (j + k) k) ∧ ((cmpR tc (j + k) k).2.1 = true → j < (cmpR tc (j + k) k).1) := by
  have hN : ∀ i, opB (tc i) = true ∨ sgB (tc i) = true → i ≠ N := fun i hi z => by
    rw [z, h.2.1] at hi
    rcases hi with q | q <;> exact absurd q (by decide)
  unfold cmpR
  split
  · rename_i q1
    have a1 := hN _ (Or.inl q1)
    split
    · rename_i q2
      have a2 := hN _ (Or.inr q2)
      split
      · rename_i q3
        have a3 := hN _ (Or.inl q3)
        have q2' := (sgB_t.mp q2).1
        have e : ∀ m, wl ((tc (j + k + 1), tc (j + k), tc (j + k + 2)) :: nts m) = 3 + m := fun m => by
          show (if tc (j + k + 1) < 21 then 1 else 3) + wl (nts m) = 3 + m
          rw [if_neg (by omega), wl_nts]
        refine ⟨⟨by show j + k + 3 ≤ N; omega, fun _ => ⟨?_, ?_⟩⟩, fun _ => by show j < j + k + 3; omega⟩
        · show wl ((tc (j + k + 1), tc (j + k), tc (j + k + 2)) :: nts (k % 2)) + j ≤ 0 + (j + k + 3)
          rw [e]
          omega
        · show wl ((tc (j + k + 1), tc (j + k), tc (j + k + 2)) :: nts k) + j ≤ 0 + (j + k + 3)
          rw [e]
          omega
      · exact ⟨⟨by show j + k + 2 ≤ N; omega, fun z => absurd z (by show ¬ false = true; decide)⟩, fun z => absurd z (by show ¬ false = true; decide)⟩
    · exact ⟨⟨by show j + k + 1 ≤ N; omega, fun z => absurd z (by show ¬ false = true; decide)⟩, fun z => absurd z (by show ¬ false = true; decide)⟩
  · exact ⟨⟨hj, fun z => absurd z (by show ¬ false = true; decide)⟩, fun z => absurd z (by show ¬ false = true; decide)⟩
theorem fl_pg {N j w i : Nat} (h : i ≤ N) : pgD N j w (fl9 i) := ⟨h, fun z => absurd z (by show ¬ false = true; decide)⟩
theorem pP_pg {tc : Nat → Nat} {N : Nat} (h : iTk tc N) : ∀ (F t L j : Nat) (ic im : zI) (R : zR9), t ≤ 4 → j ≤ N → pP tc F t L j ic im = some R →
    (t = 0 ∨ t = 3 ∨ t = 4 → pgD N j 0 R ∧ (R.2.1 = true → j < R.1)) ∧ (t = 1 ∨ t = 2 → ∀ w, wl ic ≤ w → wl im ≤ w → pgD N j w R ∧ (R.2.1 = true → j ≤ R.1))
  | 0, _, _, _, _, _, _, _, _, h => by cases h
  | F + 1, t, L, j, ic, im, R, ht, hj, hp => by
    have nf : ∀ i, (fl9 i).2.1 = true → False := fun i z => absurd z (by show ¬ false = true; decide)
    have hN : ∀ i c, tc i = c → c ≠ 25 → i ≠ N := fun i c e hc z => by rw [z, h.2.1] at e; exact hc e.symm
    rcases (show t = 0 ∨ t = 1 ∨ t = 2 ∨ t = 3 ∨ t = 4 by omega) with e | e | e | e | e <;> subst e
    · refine ⟨fun _ => ?_, fun z => by omega⟩
      have hk := ntC_le h 201 j hj
      rw [pP_0] at hp
      split at hp
      · rename_i q
        obtain ⟨r, h1, h2⟩ := Option.bind_eq_some_iff.mp hp
        have hne := hN _ _ q.1 (by decide)
        obtain ⟨g, -⟩ := pP_pg h F 3 _ _ _ _ r (by decide) (by omega) h1
        obtain ⟨⟨g1, g2⟩, g3⟩ := g (by decide)
        cases h2
        unfold opR
        split
        · rename_i w
          split
          · rename_i w2
            have := hN _ _ w2 (by decide)
            have g2 := g2 w
            have g3 := g3 w
            refine ⟨⟨by show r.1 + 1 ≤ N; omega, fun _ => ?_⟩, fun _ => by show j < r.1 + 1; omega⟩
            show wl (r.2.2.1 ++ nts (ntC tc 201 j % 2)) + j ≤ 0 + (r.1 + 1) ∧ wl (r.2.2.2 ++ nts (ntC tc 201 j)) + j ≤ 0 + (r.1 + 1)
            rw [wl_app, wl_app, wl_nts, wl_nts]
            omega
          · exact ⟨fl_pg g1, fun z => (nf _ z).elim⟩
        · exact ⟨fl_pg g1, fun z => (nf _ z).elim⟩
      · cases hp
        exact cmp_pg h hk
    · refine ⟨fun z => by omega, fun _ w hw1 hw2 => ?_⟩
      rw [pP_1] at hp
      split at hp
      · rename_i q
        obtain ⟨r, h1, h2⟩ := Option.bind_eq_some_iff.mp hp
        have hne := hN _ _ q (by decide)
        obtain ⟨g, -⟩ := pP_pg h F 0 _ _ _ _ r (by decide) (by omega) h1
        obtain ⟨⟨g1, g2⟩, g3⟩ := g (by decide)
        split at h2
        · rename_i w9
          have g2 := g2 w9
          have g3 := g3 w9
          obtain ⟨-, k⟩ := pP_pg h F 1 _ _ _ _ R (by decide) g1 h2
          obtain ⟨⟨k1, k2⟩, k3⟩ := k (by decide) (w + (r.1 - j)) (by rw [wl_app, wl_app]; show _ + _ + 1 ≤ _; omega) (by rw [wl_app, wl_app]; show _ + _ + 1 ≤ _; omega)
          exact ⟨⟨k1, fun z => by have := k2 z; have := k3 z; omega⟩, fun z => by have := k3 z; omega⟩
        · cases h2
          exact ⟨fl_pg g1, fun z => (nf _ z).elim⟩
      · cases hp
        exact ⟨⟨hj, fun _ => ⟨by show wl ic + j ≤ w + j; omega, by show wl im + j ≤ w + j; omega⟩⟩, fun _ => Nat.le_refl _⟩
    · refine ⟨fun z => by omega, fun _ w hw1 hw2 => ?_⟩
      rw [pP_2] at hp
      split at hp
      · rename_i q
        obtain ⟨r, h1, h2⟩ := Option.bind_eq_some_iff.mp hp
        have hne := hN _ _ q (by decide)
        obtain ⟨g, -⟩ := pP_pg h F 4 _ _ _ _ r (by decide) (by omega) h1
        obtain ⟨⟨g1, g2⟩, g3⟩ := g (by decide)
        split at h2
        · rename_i w9
          have g2 := g2 w9
          have g3 := g3 w9
          obtain ⟨-, k⟩ := pP_pg h F 2 _ _ _ _ R (by decide) g1 h2
          obtain ⟨⟨k1, k2⟩, k3⟩ := k (by decide) (w + (r.1 - j)) (by rw [wl_app, wl_app]; show _ + _ + 1 ≤ _; omega) (by rw [wl_app, wl_app]; show _ + _ + 1 ≤ _; omega)
          exact ⟨⟨k1, fun z => by have := k2 z; have := k3 z; omega⟩, fun z => by have := k3 z; omega⟩
        · cases h2
          exact ⟨fl_pg g1, fun z => (nf _ z).elim⟩
      · cases hp
        exact ⟨⟨hj, fun _ => ⟨by show wl ic + j ≤ w + j; omega, by show wl im + j ≤ w + j; omega⟩⟩, fun _ => Nat.le_refl _⟩
    · refine ⟨fun _ => ?_, fun z => by omega⟩
      rw [pP_3] at hp
      obtain ⟨r, h1, h2⟩ := Option.bind_eq_some_iff.mp hp
      obtain ⟨g, -⟩ := pP_pg h F 4 _ _ _ _ r (by decide) hj h1
      obtain ⟨⟨g1, g2⟩, g3⟩ := g (by decide)
      split at h2
      · rename_i w9
        have g2 := g2 w9
        have g3 := g3 w9
        obtain ⟨-, k⟩ := pP_pg h F 2 _ _ _ _ R (by decide) g1 h2
        obtain ⟨⟨k1, k2⟩, k3⟩ := k (by decide) (r.1 - j) (by omega) (by omega)
        exact ⟨⟨k1, fun z => by have := k2 z; have := k3 z; omega⟩, fun z => by have := k3 z; omega⟩
      · cases h2
        exact ⟨fl_pg g1, fun z => (nf _ z).elim⟩
    · refine ⟨fun _ => ?_, fun z => by omega⟩
      rw [pP_4] at hp
      obtain ⟨r, h1, h2⟩ := Option.bind_eq_some_iff.mp hp
      obtain ⟨g, -⟩ := pP_pg h F 0 _ _ _ _ r (by decide) hj h1
      obtain ⟨⟨g1, g2⟩, g3⟩ := g (by decide)
      split at h2
      · rename_i w9
        have g2 := g2 w9
        have g3 := g3 w9
        obtain ⟨-, k⟩ := pP_pg h F 1 _ _ _ _ R (by decide) g1 h2
        obtain ⟨⟨k1, k2⟩, k3⟩ := k (by decide) (r.1 - j) (by omega) (by omega)
        exact ⟨⟨k1, fun z => by have := k2 z; have := k3 z; omega⟩, fun z => by have := k3 z; omega⟩
      · cases h2
        exact ⟨fl_pg g1, fun z => (nf _ z).elim⟩
