/-! ===== who gets whom: whatever the order of the refusals ===== -/
def ky (S : Nat → Nat → Nat) (t g w : Nat) : Nat := (20 - gS S g w t) * 8 + w
/-- the wind that g likes best of those from a level on -/
def cwN (S : Nat → Nat → Nat) (t g L : Nat) : Nat → Nat
  | 0 => 6
  | k + 1 => if L ≤ ky S t g k ∧ lkB S t g k (cwN S t g L k) = true then k else cwN S t g L k
abbrev cW (S : Nat → Nat → Nat) (t : Nat) (X : Nat → Nat) (g : Nat) : Nat := cwN S t g (X g) (S 0 1)
def JX (S : Nat → Nat → Nat) (t : Nat) (X : Nat → Nat) : Prop := ∀ g, g < S 0 0 → ∀ w, w < S 0 1 → ky S t g w < X g → ∃ h, h < S 0 0 ∧ cW S t X h = w ∧ wlB S w h g = true
def CF (S : Nat → Nat → Nat) (t : Nat) (X : Nat → Nat) : Prop := ∀ g h, g < S 0 0 → h < S 0 0 → cW S t X g ≠ 6 → cW S t X g = cW S t X h → g = h
def dM (S : Nat → Nat → Nat) (t : Nat) (X : Nat → Nat) : Prop := ∀ Y, CF S t Y → JX S t Y → ∀ g, g < S 0 0 → ∀ w, w < S 0 1 → ky S t g w < X g → ky S t g w < Y g
section KP
variable {S : Nat → Nat → Nat} {t : Nat}
theorem lkB_k (hi : iS S) {g w o : Nat} (hw : w < 6) (ho : o < 6) : lkB S t g w o = true ↔ ky S t g w < ky S t g o := by
  have h1 := gS_lt hi (g := g) (w := w) (t := t)
  have h2 := gS_lt hi (g := g) (w := o) (t := t)
  rw [lkB_i]
  unfold ky
  omega
theorem ky_inj (hi : iS S) {g w o : Nat} (hw : w < 6) (ho : o < 6) (e : ky S t g w = ky S t g o) : w = o := by
  unfold ky at e
  omega
theorem wl_as {w a b : Nat} (h : wlB S w a b = true) (h2 : wlB S w b a = true) : False := by
  rw [wlB_i] at h h2
  omega
theorem wl_tr {w a b c : Nat} (h : wlB S w a b = true) (h2 : wlB S w b c = true) : wlB S w a c = true := by
  rw [wlB_i] at h h2 ⊢
  omega
theorem wl_to {w a b : Nat} (hn : a ≠ b) (h : ¬ wlB S w a b = true) : wlB S w b a = true := by
  rw [wlB_i] at h ⊢
  omega
/-- what the best one is -/
theorem cwN_s (hi : iS S) {g L : Nat} : ∀ k, k ≤ 6 → (cwN S t g L k = 6 ∧ ∀ w, w < k → ky S t g w < L) ∨ (cwN S t g L k < k ∧ L ≤ ky S t g (cwN S t g L k) ∧ ∀ w, w < k → L ≤ ky S t g w → ky S t g (cwN S t g L k) ≤ ky S t g w)
  | 0, _ => Or.inl ⟨rfl, fun w h => absurd h (Nat.not_lt_zero w)⟩
  | k + 1, hk => by
    have ih := cwN_s hi (g := g) (L := L) k (by omega)
    unfold cwN
    by_cases c : L ≤ ky S t g k ∧ lkB S t g k (cwN S t g L k) = true
    · rw [if_pos c]
      right
      refine ⟨by omega, c.1, fun w hw hl => ?_⟩
      by_cases e : w = k
      · rw [e]; exact Nat.le_refl _
      · rcases ih with ⟨i1, i2⟩ | ⟨i1, i2, i3⟩
        · have := i2 w (by omega); omega
        · have := i3 w (by omega) hl
          have := (lkB_k hi (by omega) (by omega)).mp c.2
          omega
    · rw [if_neg c]
      rcases ih with ⟨i1, i2⟩ | ⟨i1, i2, i3⟩
      · left
        refine ⟨i1, fun w hw => ?_⟩
        by_cases e : w = k
        · rw [e]
          rcases Nat.lt_or_ge (ky S t g k) L with q | q
          · exact q
          · exact absurd ⟨q, by rw [i1, lkB_i]; exact Or.inl rfl⟩ c
        · exact i2 w (by omega)
      · right
        refine ⟨by omega, i2, fun w hw hl => ?_⟩
        by_cases e : w = k
        · rw [e]
          rcases Nat.lt_or_ge (ky S t g k) (ky S t g (cwN S t g L k)) with q | q
          · exact absurd ⟨by rw [← e]; exact hl, (lkB_k hi (by omega) (by omega)).mpr q⟩ c
          · exact q
        · exact i3 w (by omega) hl
theorem cw_s (hi : iS S) {g L : Nat} : (cwN S t g L (S 0 1) = 6 ∧ ∀ w, w < S 0 1 → ky S t g w < L) ∨ (cwN S t g L (S 0 1) < S 0 1 ∧ L ≤ ky S t g (cwN S t g L (S 0 1)) ∧ ∀ w, w < S 0 1 → L ≤ ky S t g w → ky S t g (cwN S t g L (S 0 1)) ≤ ky S t g w) := cwN_s hi (S 0 1) hi.2.1
theorem cw_is (hi : iS S) {g L w : Nat} (hw : w < S 0 1) (h1 : L ≤ ky S t g w) (h2 : ∀ w', w' < S 0 1 → L ≤ ky S t g w' → ky S t g w ≤ ky S t g w') : cwN S t g L (S 0 1) = w := by
  have h6 := hi.2.1
  rcases cw_s hi (t := t) (g := g) (L := L) with ⟨a, b⟩ | ⟨a, b, c⟩
  · have := b w hw; omega
  · have q1 := c w hw h1
    have q2 := h2 _ a b
    exact ky_inj (t := t) (g := g) hi (by omega) (by omega) (by omega)
theorem cw_le (hi : iS S) {g L : Nat} : cwN S t g L (S 0 1) ≤ 6 := by
  have h6 := hi.2.1
  rcases cw_s hi (t := t) (g := g) (L := L) with ⟨a, _⟩ | ⟨a, _⟩ <;> omega
theorem cw_eq {g L L' : Nat} (h : ∀ w, w < S 0 1 → (ky S t g w < L ↔ ky S t g w < L')) : ∀ k, k ≤ S 0 1 → cwN S t g L k = cwN S t g L' k
  | 0, _ => rfl
  | k + 1, hk => by
    unfold cwN
    rw [cw_eq h k (by omega)]
    have := h k (by omega)
    by_cases c : L ≤ ky S t g k
    · by_cases d : lkB S t g k (cwN S t g L' k) = true
      · rw [if_pos ⟨c, d⟩, if_pos ⟨by omega, d⟩]
      · rw [if_neg (fun z => d z.2), if_neg (fun z => d z.2)]
    · rw [if_neg (fun z => c z.1), if_neg (fun z => by have := z.1; omega)]
/-- the same refusals -/
def sR (S : Nat → Nat → Nat) (t : Nat) (X Y : Nat → Nat) : Prop := ∀ g, g < S 0 0 → ∀ w, w < S 0 1 → (ky S t g w < X g ↔ ky S t g w < Y g)
theorem sR_c {X Y : Nat → Nat} (h : sR S t X Y) {g : Nat} (hg : g < S 0 0) : cW S t X g = cW S t Y g := cw_eq (h g hg) _ (Nat.le_refl _)
theorem sR_J {X Y : Nat → Nat} (h : sR S t X Y) (hJ : JX S t X) : JX S t Y := fun g hg w hw hk => by
  obtain ⟨h', a, b, c⟩ := hJ g hg w hw ((h g hg w hw).mpr hk)
  exact ⟨h', a, by rw [← sR_c h a]; exact b, c⟩
theorem sR_d {X Y : Nat → Nat} (h : sR S t X Y) (hd : dM S t X) : dM S t Y := fun Z h1 h2 g hg w hw hk => hd Z h1 h2 g hg w hw ((h g hg w hw).mpr hk)
theorem kp_uni {X Y : Nat → Nat} (x1 : CF S t X) (x2 : JX S t X) (x3 : dM S t X) (y1 : CF S t Y) (y2 : JX S t Y) (y3 : dM S t Y) {g : Nat} (hg : g < S 0 0) : cW S t X g = cW S t Y g :=
  sR_c (fun g hg w hw => ⟨x3 Y y1 y2 g hg w hw, y3 X x1 x2 g hg w hw⟩) hg
/-- one refusal -/
theorem kp_step (hi : iS S) {X : Nat → Nat} (hJ : JX S t X) (hd : dM S t X) {g h w : Nat} (hg : g < S 0 0) (hh : h < S 0 0) (hn : g ≠ h) (hw : w ≠ 6) (e1 : cW S t X g = w) (e2 : cW S t X h = w) (hl : wlB S w h g = true) : JX S t (un X g (ky S t g w + 1)) ∧ dM S t (un X g (ky S t g w + 1)) := by
  have h6 := hi.2.1
  have c1 := cw_s hi (t := t) (g := g) (L := X g)
  rw [show cwN S t g (X g) (S 0 1) = w from e1] at c1
  obtain ⟨w1, w2, w3⟩ : w < S 0 1 ∧ X g ≤ ky S t g w ∧ ∀ w', w' < S 0 1 → X g ≤ ky S t g w' → ky S t g w ≤ ky S t g w' := by
    rcases c1 with ⟨a, _⟩ | c1
    · exact absurd a hw
    · exact c1
  have cn : ∀ h', h' ≠ g → cW S t (un X g (ky S t g w + 1)) h' = cW S t X h' := fun h' q => by
    show cwN S t h' (un X g (ky S t g w + 1) h') (S 0 1) = _
    rw [un_n q]
  constructor
  · intro g0 hg0 w0 hw0 hk
    by_cases q : g0 = g
    · subst q
      rw [un_s] at hk
      by_cases q2 : w0 = w
      · subst q2
        exact ⟨h, hh, by rw [cn h (Ne.symm hn)]; exact e2, hl⟩
      · have q3 : ky S t g0 w0 < X g0 := by
          rcases Nat.lt_or_ge (ky S t g0 w0) (X g0) with q4 | q4
          · exact q4
          · have := w3 w0 hw0 q4
            exact absurd (ky_inj hi (by omega) (by omega) (show ky S t g0 w0 = ky S t g0 w by omega)) q2
        obtain ⟨h', a, b, c⟩ := hJ g0 hg0 w0 hw0 q3
        have q5 : h' ≠ g0 := fun z => by rw [z] at b; exact q2 (b.symm.trans e1)
        exact ⟨h', a, by rw [cn h' q5]; exact b, c⟩
    · rw [un_n q] at hk
      obtain ⟨h', a, b, c⟩ := hJ g0 hg0 w0 hw0 hk
      by_cases q5 : h' = g
      · subst q5
        have q6 : w0 = w := b.symm.trans e1
        subst q6
        exact ⟨h, hh, by rw [cn h (Ne.symm hn)]; exact e2, wl_tr hl c⟩
      · exact ⟨h', a, by rw [cn h' q5]; exact b, c⟩
  · intro Y y1 y2 g0 hg0 w0 hw0 hk
    by_cases q : g0 = g
    · subst q
      rw [un_s] at hk
      rcases Nat.lt_or_ge (ky S t g0 w0) (X g0) with q4 | q4
      · exact hd Y y1 y2 g0 hg0 w0 hw0 q4
      · have q3 := w3 w0 hw0 q4
        have q2 : w0 = w := ky_inj (t := t) (g := g0) hi (by omega) (by omega) (by omega)
        subst q2
        rcases Nat.lt_or_ge (ky S t g0 w0) (Y g0) with q7 | q7
        · exact q7
        · exfalso
          have cg : cW S t Y g0 = w0 := cw_is hi hw0 q7 (fun w' hw' hy => by
            refine w3 w' hw' ?_
            rcases Nat.lt_or_ge (ky S t g0 w') (X g0) with q8 | q8
            · have := hd Y y1 y2 g0 hg0 w' hw' q8; omega
            · exact q8)
          rcases Nat.lt_or_ge (ky S t h w0) (Y h) with q9 | q9
          · obtain ⟨h', a, b, c⟩ := y2 h hh w0 hw0 q9
            have := y1 g0 h' hg0 a (by rw [cg]; exact hw) (by rw [cg, b])
            subst this
            exact wl_as hl c
          · have c2 := cw_s hi (t := t) (g := h) (L := X h)
            rw [show cwN S t h (X h) (S 0 1) = w0 from e2] at c2
            have ch : cW S t Y h = w0 := cw_is hi hw0 q9 (fun w' hw' hy => by
              rcases c2 with ⟨a, _⟩ | ⟨_, _, c2⟩
              · exact absurd a hw
              · refine c2 w' hw' ?_
                rcases Nat.lt_or_ge (ky S t h w') (X h) with q8 | q8
                · have := hd Y y1 y2 h hh w' hw' q8; omega
                · exact q8)
            exact hn (y1 g0 h hg0 hh (by rw [cg]; exact hw) (by rw [cg, ch]))
    · rw [un_n q] at hk
      exact hd Y y1 y2 g0 hg0 w0 hw0 hk
theorem kp_0J : JX S t (fun _ => 0) := fun _ _ _ _ h => absurd h (Nat.not_lt_zero _)
theorem kp_0d : dM S t (fun _ => 0) := fun _ _ _ _ _ _ _ h => absurd h (Nat.not_lt_zero _)
/-! the class's order -/
def rfH (S : Nat → Nat → Nat) (C : Nat → Nat) (g : Nat) (K : Nat) : Nat → Nat → Nat
  | 0, _ => K
  | j + 1, h => if C g ≠ 6 ∧ C g = C h then (if wlB S (C g) g h = true then h else g) else rfH S C g K j (h + 1)
def rfG (S : Nat → Nat → Nat) (C : Nat → Nat) : Nat → Nat → Nat
  | 0, _ => 6
  | j + 1, g => rfH S C g (rfG S C j (g + 1)) j (g + 1)
def kpL (S : Nat → Nat → Nat) (t : Nat) : Nat → (Nat → Nat) → (Nat → Nat)
  | 0, X => X
  | j + 1, X => if rfG S (cW S t X) (S 0 0) 0 = 6 then X else kpL S t j (un X (rfG S (cW S t X) (S 0 0) 0) (ky S t (rfG S (cW S t X) (S 0 0) 0) (cW S t X (rfG S (cW S t X) (S 0 0) 0)) + 1))
def rfP (S : Nat → Nat → Nat) (C : Nat → Nat) (r : Nat) : Prop := ∃ h, r < S 0 0 ∧ h < S 0 0 ∧ r ≠ h ∧ C r ≠ 6 ∧ C r = C h ∧ wlB S (C r) h r = true
theorem rfH_s {C : Nat → Nat} {g K : Nat} (hg : g < S 0 0) : ∀ j h, g < h → h + j = S 0 0 → (rfP S C (rfH S C g K j h)) ∨ (rfH S C g K j h = K ∧ ∀ h', h ≤ h' → h' < S 0 0 → ¬ (C g ≠ 6 ∧ C g = C h'))
  | 0, h, _, e => Or.inr ⟨rfl, fun h' a b => by omega⟩
  | j + 1, h, a, e => by
    unfold rfH
    by_cases c : C g ≠ 6 ∧ C g = C h
    · rw [if_pos c]
      left
      by_cases d : wlB S (C g) g h = true
      · rw [if_pos d]
        refine ⟨g, by omega, hg, by omega, by rw [← c.2]; exact c.1, c.2.symm, by rw [← c.2]; exact d⟩
      · rw [if_neg d]
        exact ⟨h, hg, by omega, by omega, c.1, c.2, wl_to (by omega) d⟩
    · rw [if_neg c]
      rcases rfH_s (K := K) (C := C) hg j (h + 1) (by omega) (by omega) with q | ⟨q1, q2⟩
      · exact Or.inl q
      · refine Or.inr ⟨q1, fun h' x y => ?_⟩
        by_cases z : h' = h
        · rw [z]; exact c
        · exact q2 h' (by omega) y
theorem rfG_s {C : Nat → Nat} : ∀ j g, g + j = S 0 0 → (rfP S C (rfG S C j g)) ∨ (rfG S C j g = 6 ∧ ∀ g' h', g ≤ g' → g' < h' → h' < S 0 0 → ¬ (C g' ≠ 6 ∧ C g' = C h'))
  | 0, g, e => Or.inr ⟨rfl, fun g' h' a b c => by omega⟩
  | j + 1, g, e => by
    show (rfP S C (rfH S C g (rfG S C j (g + 1)) j (g + 1))) ∨ (rfH S C g (rfG S C j (g + 1)) j (g + 1) = 6 ∧ _)
    rcases rfH_s (K := rfG S C j (g + 1)) (C := C) (show g < S 0 0 by omega) j (g + 1) (by omega) (by omega) with q | ⟨q1, q2⟩
    · exact Or.inl q
    · rw [q1]
      rcases rfG_s (C := C) j (g + 1) (by omega) with r | ⟨r1, r2⟩
      · exact Or.inl r
      · refine Or.inr ⟨r1, fun g' h' a b c => ?_⟩
        by_cases z : g' = g
        · rw [z]; exact q2 h' (by omega) c
        · exact r2 g' h' (by omega) b c
/-! how many are left to be asked -/
def cnN (S : Nat → Nat → Nat) (t g L : Nat) : Nat → Nat
  | 0 => 0
  | k + 1 => cnN S t g L k + (if L ≤ ky S t g k then 1 else 0)
def smN (S : Nat → Nat → Nat) (t : Nat) (X : Nat → Nat) : Nat → Nat
  | 0 => 0
  | k + 1 => smN S t X k + cnN S t k (X k) (S 0 1)
theorem cnN_le {g L : Nat} : ∀ k, cnN S t g L k ≤ k
  | 0 => Nat.le_refl _
  | k + 1 => by
    have := cnN_le (g := g) (L := L) k
    unfold cnN
    split <;> omega
theorem cnN_mo {g L L' : Nat} (h : L ≤ L') : ∀ k, cnN S t g L' k ≤ cnN S t g L k
  | 0 => Nat.le_refl _
  | k + 1 => by
    have := cnN_mo (g := g) h k
    unfold cnN
    split <;> split <;> omega
theorem cnN_dr {g L L' w : Nat} (h1 : L ≤ ky S t g w) (h2 : ky S t g w < L') : ∀ k, w < k → cnN S t g L' k < cnN S t g L k
  | 0, h => absurd h (Nat.not_lt_zero _)
  | k + 1, h => by
    unfold cnN
    by_cases e : w = k
    · rw [← e, if_pos h1, if_neg (by omega)]
      have := cnN_mo (S := S) (t := t) (g := g) (show L ≤ L' by omega) w
      omega
    · have := cnN_dr h1 h2 k (by omega)
      by_cases q : L' ≤ ky S t g k
      · rw [if_pos q, if_pos (by omega)]; omega
      · rw [if_neg q]; omega
theorem smN_eq {X : Nat → Nat} {r L : Nat} : ∀ k, k ≤ r → smN S t (un X r L) k = smN S t X k
  | 0, _ => rfl
  | k + 1, h => by
    unfold smN
    rw [smN_eq k (by omega), un_n (by omega)]
theorem smN_dr {X : Nat → Nat} {r L : Nat} (hd : cnN S t r L (S 0 1) < cnN S t r (X r) (S 0 1)) : ∀ k, r < k → smN S t (un X r L) k < smN S t X k
  | 0, h => absurd h (Nat.not_lt_zero _)
  | k + 1, h => by
    unfold smN
    by_cases e : r = k
    · rw [← e, un_s, smN_eq r (Nat.le_refl _)]; omega
    · have := smN_dr hd k (by omega)
      rw [un_n (show k ≠ r by omega)]
      omega
theorem smN_le (hi : iS S) {X : Nat → Nat} : ∀ k, smN S t X k ≤ 6 * k
  | 0 => Nat.le_refl _
  | k + 1 => by
    have := smN_le hi (X := X) k
    have h1 := cnN_le (S := S) (t := t) (g := k) (L := X k) (S 0 1)
    have h2 := hi.2.1
    unfold smN
    omega
theorem kpL_s (hi : iS S) : ∀ j X, JX S t X → dM S t X → smN S t X (S 0 0) < j → CF S t (kpL S t j X) ∧ JX S t (kpL S t j X) ∧ dM S t (kpL S t j X)
  | 0, X, _, _, h => absurd h (Nat.not_lt_zero _)
  | j + 1, X, hJ, hd, hm => by
    have h6 := hi.1
    unfold kpL
    by_cases c : rfG S (cW S t X) (S 0 0) 0 = 6
    · rw [if_pos c]
      refine ⟨fun g h hg hh h1 h2 => ?_, hJ, hd⟩
      rcases rfG_s (S := S) (C := cW S t X) (S 0 0) 0 (by omega) with ⟨h', q, _⟩ | ⟨_, q⟩
      · omega
      · rcases Nat.lt_trichotomy g h with z | z | z
        · exact absurd ⟨h1, h2⟩ (q g h (Nat.zero_le _) z hh)
        · exact z
        · exact absurd ⟨by rw [← h2]; exact h1, h2.symm⟩ (q h g (Nat.zero_le _) z hg)
    · rw [if_neg c]
      rcases rfG_s (S := S) (C := cW S t X) (S 0 0) 0 (by omega) with ⟨h', q1, q2, q3, q4, q5, q6⟩ | ⟨q, _⟩
      · have st := kp_step hi hJ hd q1 q2 q3 q4 rfl q5.symm q6
        refine kpL_s hi j _ st.1 st.2 ?_
        have c1 := cw_s hi (t := t) (g := rfG S (cW S t X) (S 0 0) 0) (L := X (rfG S (cW S t X) (S 0 0) 0))
        rcases c1 with ⟨a, _⟩ | ⟨a, b, _⟩
        · exact absurd a q4
        · have := smN_dr (X := X) (cnN_dr (L' := ky S t (rfG S (cW S t X) (S 0 0) 0) (cW S t X (rfG S (cW S t X) (S 0 0) 0)) + 1) b (Nat.lt_succ_self _) _ a) (S 0 0) q1
          omega
      · exact absurd q c
theorem kp37 (hi : iS S) : CF S t (kpL S t 37 (fun _ => 0)) ∧ JX S t (kpL S t 37 (fun _ => 0)) ∧ dM S t (kpL S t 37 (fun _ => 0)) :=
  kpL_s hi 37 _ kp_0J kp_0d (by have := smN_le hi (t := t) (X := fun _ => 0) (S 0 0); have := hi.1; omega)
end KP
def f_kept : zκ → Int32 → Int32 × zκ
  | (S, mo, pr, fa, sc, ch, rc, D), x => (if 0 ≤ x ∧ x < nI (S 0 0) then nI (cW S (hmo mo) (kpL S (hmo mo) 37 (fun _ => 0)) (tN x)) else -1, (S, mo, pr, fa, sc, ch, rc, D))
