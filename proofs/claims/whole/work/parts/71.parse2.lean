/-! ===== what is read means the same to both; it ends ===== -/
theorem ev_nts {f : Nat → Nat} {s : List Bool} {t : zI} : ∀ (k : Nat) (b : Bool), evB f (nts k ++ t) (b :: s) = evB f t ((if k % 2 = 0 then b else !b) :: s)
  | 0, b => rfl
  | k + 1, b => by
    show evB f (nts k ++ t) ((!b) :: s) = _
    rw [ev_nts k (!b)]
    by_cases h : k % 2 = 0
    · rw [if_pos h, if_neg (by omega)]
    · rw [if_neg h, if_pos (by omega), Bool.not_not]
theorem ok_nts {t : zI} {d : Nat} (hd : 1 ≤ d) (h : okI t d) : ∀ k, okI (nts k ++ t) d
  | 0 => h
  | k + 1 => Or.inl ⟨rfl, hd, ok_nts hd h k⟩
theorem dp_nts {t : zI} {d : Nat} : ∀ k, dpI (nts k ++ t) d = dpI t d
  | 0 => rfl
  | k + 1 => by
    show (if 12 = 12 then dpI (nts k ++ t) d else _) = _
    rw [if_pos rfl, dp_nts k]
/-- two writings of one truth -/
def GQ (d : Nat) (ic im : zI) : Prop := (∀ f : Nat → Nat, ∃ b : Bool, ∀ (s : List Bool) (t : zI), evB f (ic ++ t) s = evB f t (b :: s) ∧ evB f (im ++ t) s = evB f t (b :: s)) ∧ (∀ t, okI t (d + 1) → okI (ic ++ t) d) ∧ (∀ t, okI t (d + 1) → okI (im ++ t) d) ∧ ∀ t, dpI (im ++ t) d = dpI t (d + 1)
theorem GQ_not {d k : Nat} {ic im : zI} (h : GQ d ic im) : GQ d (ic ++ nts (k % 2)) (im ++ nts k) := by
  obtain ⟨h1, h2, h3, h4⟩ := h
  refine ⟨fun f => ?_, fun t ht => ?_, fun t ht => ?_, fun t => ?_⟩
  · obtain ⟨b, hb⟩ := h1 f
    refine ⟨if k % 2 = 0 then b else !b, fun s t => ?_⟩
    rw [List.append_assoc, List.append_assoc, (hb s _).1, (hb s _).2, ev_nts, ev_nts]
    rw [show k % 2 % 2 = k % 2 by omega]
    exact ⟨rfl, rfl⟩
  · rw [List.append_assoc]
    exact h2 _ (ok_nts (by omega) ht _)
  · rw [List.append_assoc]
    exact h3 _ (ok_nts (by omega) ht _)
  · rw [List.append_assoc, h4, dp_nts]
theorem GQ_and {d o : Nat} {ic im jc jm : zI} (ho : o = 10 ∨ o = 11) (h : GQ d ic im) (g : GQ (d + 1) jc jm) : GQ d (ic ++ jc ++ [(o, 0, 0)]) (im ++ jm ++ [(o, 0, 0)]) := by
  obtain ⟨h1, h2, h3, h4⟩ := h
  obtain ⟨g1, g2, g3, g4⟩ := g
  refine ⟨fun f => ?_, fun t ht => ?_, fun t ht => ?_, fun t => ?_⟩
  · obtain ⟨b, hb⟩ := h1 f
    obtain ⟨c, hc⟩ := g1 f
    refine ⟨if o = 11 then b && c else b || c, fun s t => ?_⟩
    rw [List.append_assoc, List.append_assoc, List.append_assoc, List.append_assoc, (hb s _).1, (hb s _).2, (hc _ _).1, (hc _ _).2]
    rcases ho with e | e <;> subst e <;> exact ⟨rfl, rfl⟩
  · rw [List.append_assoc, List.append_assoc]
    refine h2 _ (g2 _ (Or.inr (Or.inl ⟨ho, by omega, ?_⟩)))
    exact ht
  · rw [List.append_assoc, List.append_assoc]
    refine h3 _ (g3 _ (Or.inr (Or.inl ⟨ho, by omega, ?_⟩)))
    exact ht
  · rw [List.append_assoc, List.append_assoc, h4, g4]
    show (if o = 12 then dpI t (d + 1 + 1) else if o < 21 then dpI t (d + 1 + 1 - 1) else _) = _
    rw [if_neg (by omega), if_pos (by omega)]
    rfl
theorem GQ_cmp {d o l r : Nat} (h1 : 21 ≤ o) (h2 : o ≤ 23) (hl : opv l) (hr : opv r) (hd : d < 10) : GQ d [(o, l, r)] [(o, l, r)] := by
  refine ⟨fun f => ⟨cmB o (vl f l) (vl f r), fun s t => ?_⟩, fun t ht => ?_, fun t ht => ?_, fun t => ?_⟩
  · have e : evB f ((o, l, r) :: t) s = evB f t (cmB o (vl f l) (vl f r) :: s) := by
      rw [evB.eq_def]
      show (if o = 12 then _ else if o = 11 then _ else if o = 10 then _ else evB f t (cmB o (vl f l) (vl f r) :: s)) = _
      rw [if_neg (by omega), if_neg (by omega), if_neg (by omega)]
    exact ⟨e, e⟩
  · exact Or.inr (Or.inr ⟨h1, h2, hl, hr, hd, ht⟩)
  · exact Or.inr (Or.inr ⟨h1, h2, hl, hr, hd, ht⟩)
  · show (if o = 12 then dpI t d else if o < 21 then dpI t (d - 1) else dpI t (d + 1)) = _
    rw [if_neg (by omega), if_neg (by omega)]
theorem nf9 {i : Nat} : ¬ (fl9 i).2.1 = true := by show ¬ false = true; decide
theorem cmp_gq {tc : Nat → Nat} {j k d : Nat} (hd : d < 10) (h : (cmpR tc j k).2.1 = true) : GQ d (cmpR tc j k).2.2.1 (cmpR tc j k).2.2.2 := by
  unfold cmpR at h ⊢
  split at h
  · rename_i q1
    split at h
    · rename_i q2
      split at h
      · rename_i q3
        rw [if_pos q1, if_pos q2, if_pos q3]
        exact GQ_not (GQ_cmp (sgB_t.mp q2).1 (sgB_t.mp q2).2 (opB_t.mp q1) (opB_t.mp q3) hd)
      · exact absurd h nf9
    · exact absurd h nf9
  · exact absurd h nf9
theorem pP_gq {tc : Nat → Nat} : ∀ (F t L j : Nat) (ic im : zI) (R : zR9), t ≤ 4 → pP tc F t L j ic im = some R → R.2.1 = true →
    (t = 0 → ∀ d, d + 2 * L ≤ 8 → GQ d R.2.2.1 R.2.2.2) ∧ (t = 1 → ∀ d, d + 2 * L ≤ 7 → GQ d ic im → GQ d R.2.2.1 R.2.2.2) ∧ (t = 2 → ∀ d, d + 2 * L ≤ 6 → GQ d ic im → GQ d R.2.2.1 R.2.2.2) ∧ (t = 3 → ∀ d, d + 2 * L ≤ 6 → GQ d R.2.2.1 R.2.2.2) ∧ (t = 4 → ∀ d, d + 2 * L ≤ 7 → GQ d R.2.2.1 R.2.2.2)
  | 0, _, _, _, _, _, _, _, h, _ => by cases h
  | F + 1, t, L, j, ic, im, R, ht, hp, hok => by
    rcases (show t = 0 ∨ t = 1 ∨ t = 2 ∨ t = 3 ∨ t = 4 by omega) with e | e | e | e | e <;> subst e
    · refine ⟨fun _ d hd => ?_, fun z => by omega, fun z => by omega, fun z => by omega, fun z => by omega⟩
      rw [pP_0] at hp
      split at hp
      · rename_i q
        obtain ⟨r, h1, h2⟩ := Option.bind_eq_some_iff.mp hp
        cases h2
        unfold opR at hok ⊢
        split at hok
        · rename_i w
          split at hok
          · rename_i w2
            rw [if_pos w, if_pos w2]
            exact GQ_not ((pP_gq F 3 _ _ _ _ r (by decide) h1 w).2.2.2.1 rfl d (by omega))
          · exact absurd hok nf9
        · exact absurd hok nf9
      · cases hp
        exact cmp_gq (by omega) hok
    · refine ⟨fun z => by omega, fun _ d hd hg => ?_, fun z => by omega, fun z => by omega, fun z => by omega⟩
      rw [pP_1] at hp
      split at hp
      · obtain ⟨r, h1, h2⟩ := Option.bind_eq_some_iff.mp hp
        split at h2
        · rename_i w
          exact (pP_gq F 1 _ _ _ _ R (by decide) h2 hok).2.1 rfl d hd (GQ_and (Or.inr rfl) hg ((pP_gq F 0 _ _ _ _ r (by decide) h1 w).1 rfl (d + 1) (by omega)))
        · cases h2; exact absurd hok nf9
      · cases hp; exact hg
    · refine ⟨fun z => by omega, fun z => by omega, fun _ d hd hg => ?_, fun z => by omega, fun z => by omega⟩
      rw [pP_2] at hp
      split at hp
      · obtain ⟨r, h1, h2⟩ := Option.bind_eq_some_iff.mp hp
        split at h2
        · rename_i w
          exact (pP_gq F 2 _ _ _ _ R (by decide) h2 hok).2.2.1 rfl d hd (GQ_and (Or.inl rfl) hg ((pP_gq F 4 _ _ _ _ r (by decide) h1 w).2.2.2.2 rfl (d + 1) (by omega)))
        · cases h2; exact absurd hok nf9
      · cases hp; exact hg
    · refine ⟨fun z => by omega, fun z => by omega, fun z => by omega, fun _ d hd => ?_, fun z => by omega⟩
      rw [pP_3] at hp
      obtain ⟨r, h1, h2⟩ := Option.bind_eq_some_iff.mp hp
      split at h2
      · rename_i w
        exact (pP_gq F 2 _ _ _ _ R (by decide) h2 hok).2.2.1 rfl d hd ((pP_gq F 4 _ _ _ _ r (by decide) h1 w).2.2.2.2 rfl d (by omega))
      · cases h2; exact absurd hok nf9
    · refine ⟨fun z => by omega, fun z => by omega, fun z => by omega, fun z => by omega, fun _ d hd => ?_⟩
      rw [pP_4] at hp
      obtain ⟨r, h1, h2⟩ := Option.bind_eq_some_iff.mp hp
      split at h2
      · rename_i w
        exact (pP_gq F 1 _ _ _ _ R (by decide) h2 hok).2.1 rfl d hd ((pP_gq F 0 _ _ _ _ r (by decide) h1 w).1 rfl d (by omega))
      · cases h2; exact absurd hok nf9
/-! it ends -/
theorem pT_1 {tc : Nat → Nat} {N L : Nat} (h : iTk tc N) (h0 : ∀ j, j ≤ N → ∃ F R, pP tc F 0 L j [] [] = some R) : ∀ m j ic im, N - j ≤ m → j ≤ N → ∃ F R, pP tc F 1 L j ic im = some R
  | 0, j, ic, im, hm, hj => ⟨1, _, by rw [pP_1, if_neg (by rw [show j = N by omega, h.2.1]; decide)]⟩
  | m + 1, j, ic, im, hm, hj => by
    by_cases q : tc j = 11
    · have hne : j ≠ N := fun z => by rw [z, h.2.1] at q; cases q
      obtain ⟨F1, r, h1⟩ := h0 (j + 1) (by omega)
      obtain ⟨⟨g1, -⟩, g3⟩ := (pP_pg h F1 0 _ _ _ _ r (by decide) (by omega) h1).1 (by decide)
      by_cases w : r.2.1 = true
      · have g3 := g3 w
        obtain ⟨F2, R, h2⟩ := pT_1 h h0 m r.1 (ic ++ r.2.2.1 ++ [(11, 0, 0)]) (im ++ r.2.2.2 ++ [(11, 0, 0)]) (by omega) g1
        refine ⟨F1 + F2 + 1, R, ?_⟩
        rw [pP_1, if_pos q, pP_add (by decide) h1 F2]
        show (if r.2.1 = true then _ else _) = _
        rw [if_pos w, Nat.add_comm F1 F2]
        exact pP_add (by decide) h2 F1
      · refine ⟨F1 + 1, fl9 r.1, ?_⟩
        rw [pP_1, if_pos q, h1]
        show (if r.2.1 = true then _ else _) = _
        rw [if_neg w]
    · exact ⟨1, _, by rw [pP_1, if_neg q]⟩
theorem pT_4 {tc : Nat → Nat} {N L : Nat} (h : iTk tc N) (h0 : ∀ j, j ≤ N → ∃ F R, pP tc F 0 L j [] [] = some R) (j : Nat) (hj : j ≤ N) : ∃ F R, pP tc F 4 L j [] [] = some R := by
  obtain ⟨F1, r, h1⟩ := h0 j hj
  obtain ⟨⟨g1, -⟩, g3⟩ := (pP_pg h F1 0 _ _ _ _ r (by decide) hj h1).1 (by decide)
  by_cases w : r.2.1 = true
  · obtain ⟨F2, R, h2⟩ := pT_1 h h0 N r.1 r.2.2.1 r.2.2.2 (by omega) g1
    refine ⟨F1 + F2 + 1, R, ?_⟩
    rw [pP_4, pP_add (by decide) h1 F2]
    show (if r.2.1 = true then _ else _) = _
    rw [if_pos w, Nat.add_comm F1 F2]
    exact pP_add (by decide) h2 F1
  · refine ⟨F1 + 1, fl9 r.1, ?_⟩
    rw [pP_4, h1]
    show (if r.2.1 = true then _ else _) = _
    rw [if_neg w]
theorem pT_2 {tc : Nat → Nat} {N L : Nat} (h : iTk tc N) (h4 : ∀ j, j ≤ N → ∃ F R, pP tc F 4 L j [] [] = some R) : ∀ m j ic im, N - j ≤ m → j ≤ N → ∃ F R, pP tc F 2 L j ic im = some R
  | 0, j, ic, im, hm, hj => ⟨1, _, by rw [pP_2, if_neg (by rw [show j = N by omega, h.2.1]; decide)]⟩
  | m + 1, j, ic, im, hm, hj => by
    by_cases q : tc j = 10
    · have hne : j ≠ N := fun z => by rw [z, h.2.1] at q; cases q
      obtain ⟨F1, r, h1⟩ := h4 (j + 1) (by omega)
      obtain ⟨⟨g1, -⟩, g3⟩ := (pP_pg h F1 4 _ _ _ _ r (by decide) (by omega) h1).1 (by decide)
      by_cases w : r.2.1 = true
      · have g3 := g3 w
        obtain ⟨F2, R, h2⟩ := pT_2 h h4 m r.1 (ic ++ r.2.2.1 ++ [(10, 0, 0)]) (im ++ r.2.2.2 ++ [(10, 0, 0)]) (by omega) g1
        refine ⟨F1 + F2 + 1, R, ?_⟩
        rw [pP_2, if_pos q, pP_add (by decide) h1 F2]
        show (if r.2.1 = true then _ else _) = _
        rw [if_pos w, Nat.add_comm F1 F2]
        exact pP_add (by decide) h2 F1
      · refine ⟨F1 + 1, fl9 r.1, ?_⟩
        rw [pP_2, if_pos q, h1]
        show (if r.2.1 = true then _ else _) = _
        rw [if_neg w]
    · exact ⟨1, _, by rw [pP_2, if_neg q]⟩
theorem pT_3 {tc : Nat → Nat} {N L : Nat} (h : iTk tc N) (h4 : ∀ j, j ≤ N → ∃ F R, pP tc F 4 L j [] [] = some R) (j : Nat) (hj : j ≤ N) : ∃ F R, pP tc F 3 L j [] [] = some R := by
  obtain ⟨F1, r, h1⟩ := h4 j hj
  obtain ⟨⟨g1, -⟩, g3⟩ := (pP_pg h F1 4 _ _ _ _ r (by decide) hj h1).1 (by decide)
  by_cases w : r.2.1 = true
  · obtain ⟨F2, R, h2⟩ := pT_2 h h4 N r.1 r.2.2.1 r.2.2.2 (by omega) g1
    refine ⟨F1 + F2 + 1, R, ?_⟩
    rw [pP_3, pP_add (by decide) h1 F2]
    show (if r.2.1 = true then _ else _) = _
    rw [if_pos w, Nat.add_comm F1 F2]
    exact pP_add (by decide) h2 F1
  · refine ⟨F1 + 1, fl9 r.1, ?_⟩
    rw [pP_3, h1]
    show (if r.2.1 = true then _ else _) = _
    rw [if_neg w]
theorem pT_0 {tc : Nat → Nat} {N : Nat} (h : iTk tc N) : ∀ L j, j ≤ N → ∃ F R, pP tc F 0 L j [] [] = some R
  | 0, j, hj => ⟨1, _, by rw [pP_0, if_neg (by omega)]⟩
  | L + 1, j, hj => by
    by_cases q : tc (j + ntC tc 201 j) = 19
    · have hk := ntC_le h 201 j hj
      have hne : j + ntC tc 201 j ≠ N := fun z => by rw [z, h.2.1] at q; cases q
      obtain ⟨F1, r, h1⟩ := pT_3 h (pT_4 h (pT_0 h L)) (j + ntC tc 201 j + 1) (by omega)
      refine ⟨F1 + 1, opR tc (ntC tc 201 j) r, ?_⟩
      rw [pP_0, if_pos ⟨q, by omega⟩, show L + 1 - 1 = L from rfl, h1]
      rfl
    · exact ⟨1, _, by rw [pP_0, if_neg (fun z => q z.1)]⟩
theorem pT {tc : Nat → Nat} {N : Nat} (h : iTk tc N) (L j : Nat) (hj : j ≤ N) : ∃ F R, pP tc F 3 L j [] [] = some R := pT_3 h (pT_4 h (pT_0 h L)) j hj
theorem sg_app {c : Nat → Nat} {y : zI} {m e : Nat} (h2 : sg c m y e) : ∀ (x : zI) (b : Nat), sg c b x m → sg c b (x ++ y) e
  | [], b, h => by
    have h : b = m := h
    rw [h]
    exact h2
  | (o, l, r) :: x, b, h => by
    obtain ⟨h1, h3⟩ := h
    refine ⟨h1, ?_⟩
    by_cases ho : o < 21
    · rw [if_pos ho] at h3 ⊢
      exact sg_app h2 x _ h3
    · rw [if_neg ho] at h3 ⊢
      exact ⟨h3.1, h3.2.1, sg_app h2 x _ h3.2.2⟩
theorem sg_len {c : Nat → Nat} : ∀ (x : zI) (b e : Nat), sg c b x e → e = b + wl x
  | [], b, e, h => by
    have h : b = e := h
    show e = b + 0
    omega
  | (o, l, r) :: x, b, e, h => by
    obtain ⟨h1, h3⟩ := h
    show e = b + ((if o < 21 then 1 else 3) + wl x)
    by_cases ho : o < 21
    · rw [if_pos ho] at h3 ⊢
      have := sg_len x _ _ h3
      omega
    · rw [if_neg ho] at h3 ⊢
      have := sg_len x _ _ h3.2.2
      omega
