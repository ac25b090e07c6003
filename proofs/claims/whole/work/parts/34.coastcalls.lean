theorem mst_pm3 {μ : Nat → va_E} {s s' : Nat → Int32} {κ : zκ} (h : mst μ s κ) {S : Nat → Nat → Nat} {mo : Nat} {pr fa : Nat → Nat} {sc ch : Int32} {rc : Nat} {ρ : Nat → Int32} {D : zD6} {w q : Nat → Int32} (hd : dzM ρ rc D) (hk : iK (S, mo, pr, fa, sc, ch, rc, D)) : mst (pm (zu (zu μ 91 (.inl (0, 618, .inl w))) 93 (.inl (1, 100, .inl q))) s' (mk S mo pr fa sc ch rc ρ)) s' (S, mo, pr, fa, sc, ch, rc, D) := by
  obtain ⟨S0, mo0, pr0, fa0, sc0, ch0, rc0, D0⟩ := κ
  obtain ⟨-, -, ⟨q3, h3⟩, ⟨q4, h4⟩, ⟨q5, h5⟩, ⟨q6, h6⟩, ⟨q7, h7⟩, ⟨q8, h8⟩, -⟩ := h
  refine ⟨⟨ρ, pm_1, hd⟩, pm_0, ⟨q, ?_⟩, ⟨w, ?_⟩, ⟨q5, ?_⟩, ⟨q6, ?_⟩, ⟨q7, ?_⟩, ⟨q8, ?_⟩, hk⟩
  · rw [pm_o (by decide)]; exact zu_s
  · rw [pm_o (by decide), zu_n (by decide)]; exact zu_s
  · rw [pm_o (by decide), zu_n (by decide), zu_n (by decide)]; exact h5
  · rw [pm_o (by decide), zu_n (by decide), zu_n (by decide)]; exact h6
  · rw [pm_o (by decide), zu_n (by decide), zu_n (by decide)]; exact h7
  · rw [pm_o (by decide), zu_n (by decide), zu_n (by decide)]; exact h8
theorem mK_of3 {μ : Nat → va_E} {s s' : Nat → Int32} {κ : zκ} (h : mst μ s κ) {S : Nat → Nat → Nat} {mo : Nat} {pr fa : Nat → Nat} {sc ch : Int32} {rc : Nat} {ρ : Nat → Int32} {D : zD6} {w q : Nat → Int32} {r : Int32} (hs : sEq s s') (hd : dzM ρ rc D) (hk : iK (S, mo, pr, fa, sc, ch, rc, D)) : mK μ s (r, (S, mo, pr, fa, sc, ch, rc, D)) (some (.int r)) (pm (zu (zu μ 91 (.inl (0, 618, .inl w))) 93 (.inl (1, 100, .inl q))) s' (mk S mo pr fa sc ch rc ρ)) :=
  ⟨rfl, s', hs, mst_pm3 h hd hk, fun i hi => by rw [pm_o (by omega), zu_n (by omega), zu_n (by omega)]⟩
theorem z_no {y : Int32} {b : Nat} (hb : b < 2 ^ 31) (h : ∀ j, j ≤ b → ¬ y = nI j) : ¬ (nI 0 ≤ y ∧ y ≤ nI b) := fun q => by
  obtain ⟨j, _, hj, e⟩ := z_wi q hb (by decide)
  exact h j hj e
theorem z_nx {y z : Int32} (h : z = y) : ¬ z ≠ y := fun q => q h
section MKW
variable {S : Nat → Nat → Nat} {mo : Nat} {pr fa : Nat → Nat} {sc ch : Int32} {rc : Nat} {ρ : Nat → Int32}
theorem mk_u_w0 {w : Nat} {x : Nat} (hw : w < 6) : upd (mk S mo pr fa sc ch rc ρ) (8 + 4 * w + 0) (nI x) = mk (un S 4 (un (S 4) w x)) mo pr fa sc ch rc ρ := by
  funext i
  revert i
  refine mk_cases (fun i hi => ?_) (fun w0 hw0 => ?_) (fun g0 hg0 => ?_) (fun r hr => ?_) (fun i hi => ?_)
  · rw [upd_no (by omega)]
    rcases (show i = 0 ∨ i = 1 ∨ i = 2 ∨ i = 3 ∨ i = 4 ∨ i = 5 ∨ i = 6 ∨ i = 7 by omega) with e | e | e | e | e | e | e | e <;> subst e <;> rfl
  · rw [mk_w0 hw0, mk_w1 hw0, mk_w2 hw0, mk_w3 hw0]
    by_cases e : w0 = w
    · subst e
      refine ⟨?_, ?_, ?_, ?_⟩ <;> first | (rw [upd_at]; simp [un]; done) | (rw [upd_no (by omega)]; (first | rw [mk_w0 hw0] | rw [mk_w1 hw0] | rw [mk_w2 hw0] | rw [mk_w3 hw0]); all_goals (first | rfl | simp [un]))
    · rw [upd_no (by omega), upd_no (by omega), upd_no (by omega), upd_no (by omega), mk_w0 hw0, mk_w1 hw0, mk_w2 hw0, mk_w3 hw0]
      all_goals (first | (refine ⟨?_, ?_, ?_, ?_⟩ <;> first | rfl | (simp [un, e]; done)) | simp [un, e])
  · rw [upd_no (by omega), upd_no (by omega), upd_no (by omega), upd_no (by omega), upd_no (by omega), mk_g0 hg0, mk_g1 hg0, mk_g2 hg0, mk_g3 hg0, mk_g4 hg0, mk_g0 hg0, mk_g1 hg0, mk_g2 hg0, mk_g3 hg0, mk_g4 hg0]
    exact ⟨rfl, rfl, rfl, rfl, rfl⟩
  · rw [upd_no (by omega), mk_r hr, mk_r hr]
    all_goals (first | rfl | simp [un])
  · rw [upd_no (by omega), mk_s hi, mk_s hi]
theorem mk_u_w1 {w : Nat} {x : Nat} (hw : w < 6) : upd (mk S mo pr fa sc ch rc ρ) (8 + 4 * w + 1) (nI x) = mk (un S 5 (un (S 5) w x)) mo pr fa sc ch rc ρ := by
  funext i
  revert i
  refine mk_cases (fun i hi => ?_) (fun w0 hw0 => ?_) (fun g0 hg0 => ?_) (fun r hr => ?_) (fun i hi => ?_)
  · rw [upd_no (by omega)]
    rcases (show i = 0 ∨ i = 1 ∨ i = 2 ∨ i = 3 ∨ i = 4 ∨ i = 5 ∨ i = 6 ∨ i = 7 by omega) with e | e | e | e | e | e | e | e <;> subst e <;> rfl
  · rw [mk_w0 hw0, mk_w1 hw0, mk_w2 hw0, mk_w3 hw0]
    by_cases e : w0 = w
    · subst e
      refine ⟨?_, ?_, ?_, ?_⟩ <;> first | (rw [upd_at]; simp [un]; done) | (rw [upd_no (by omega)]; (first | rw [mk_w0 hw0] | rw [mk_w1 hw0] | rw [mk_w2 hw0] | rw [mk_w3 hw0]); all_goals (first | rfl | simp [un]))
    · rw [upd_no (by omega), upd_no (by omega), upd_no (by omega), upd_no (by omega), mk_w0 hw0, mk_w1 hw0, mk_w2 hw0, mk_w3 hw0]
      all_goals (first | (refine ⟨?_, ?_, ?_, ?_⟩ <;> first | rfl | (simp [un, e]; done)) | simp [un, e])
  · rw [upd_no (by omega), upd_no (by omega), upd_no (by omega), upd_no (by omega), upd_no (by omega), mk_g0 hg0, mk_g1 hg0, mk_g2 hg0, mk_g3 hg0, mk_g4 hg0, mk_g0 hg0, mk_g1 hg0, mk_g2 hg0, mk_g3 hg0, mk_g4 hg0]
    exact ⟨rfl, rfl, rfl, rfl, rfl⟩
  · rw [upd_no (by omega), mk_r hr, mk_r hr]
    all_goals (first | rfl | simp [un])
  · rw [upd_no (by omega), mk_s hi, mk_s hi]
theorem mk_u_w2 {w : Nat} {x : Nat} (hw : w < 6) : upd (mk S mo pr fa sc ch rc ρ) (8 + 4 * w + 2) (nI x) = mk (un S 6 (un (S 6) w x)) mo pr fa sc ch rc ρ := by
  funext i
  revert i
  refine mk_cases (fun i hi => ?_) (fun w0 hw0 => ?_) (fun g0 hg0 => ?_) (fun r hr => ?_) (fun i hi => ?_)
  · rw [upd_no (by omega)]
    rcases (show i = 0 ∨ i = 1 ∨ i = 2 ∨ i = 3 ∨ i = 4 ∨ i = 5 ∨ i = 6 ∨ i = 7 by omega) with e | e | e | e | e | e | e | e <;> subst e <;> rfl
  · rw [mk_w0 hw0, mk_w1 hw0, mk_w2 hw0, mk_w3 hw0]
    by_cases e : w0 = w
    · subst e
      refine ⟨?_, ?_, ?_, ?_⟩ <;> first | (rw [upd_at]; simp [un]; done) | (rw [upd_no (by omega)]; (first | rw [mk_w0 hw0] | rw [mk_w1 hw0] | rw [mk_w2 hw0] | rw [mk_w3 hw0]); all_goals (first | rfl | simp [un]))
    · rw [upd_no (by omega), upd_no (by omega), upd_no (by omega), upd_no (by omega), mk_w0 hw0, mk_w1 hw0, mk_w2 hw0, mk_w3 hw0]
      all_goals (first | (refine ⟨?_, ?_, ?_, ?_⟩ <;> first | rfl | (simp [un, e]; done)) | simp [un, e])
  · rw [upd_no (by omega), upd_no (by omega), upd_no (by omega), upd_no (by omega), upd_no (by omega), mk_g0 hg0, mk_g1 hg0, mk_g2 hg0, mk_g3 hg0, mk_g4 hg0, mk_g0 hg0, mk_g1 hg0, mk_g2 hg0, mk_g3 hg0, mk_g4 hg0]
    exact ⟨rfl, rfl, rfl, rfl, rfl⟩
  · rw [upd_no (by omega), mk_r hr, mk_r hr]
    all_goals (first | rfl | simp [un])
  · rw [upd_no (by omega), mk_s hi, mk_s hi]
theorem mk_u_w3 {w : Nat} {x : Nat} (hw : w < 6) : upd (mk S mo pr fa sc ch rc ρ) (8 + 4 * w + 3) (nI x) = mk (un S 7 (un (S 7) w x)) mo pr fa sc ch rc ρ := by
  funext i
  revert i
  refine mk_cases (fun i hi => ?_) (fun w0 hw0 => ?_) (fun g0 hg0 => ?_) (fun r hr => ?_) (fun i hi => ?_)
  · rw [upd_no (by omega)]
    rcases (show i = 0 ∨ i = 1 ∨ i = 2 ∨ i = 3 ∨ i = 4 ∨ i = 5 ∨ i = 6 ∨ i = 7 by omega) with e | e | e | e | e | e | e | e <;> subst e <;> rfl
  · rw [mk_w0 hw0, mk_w1 hw0, mk_w2 hw0, mk_w3 hw0]
    by_cases e : w0 = w
    · subst e
      refine ⟨?_, ?_, ?_, ?_⟩ <;> first | (rw [upd_at]; simp [un]; done) | (rw [upd_no (by omega)]; (first | rw [mk_w0 hw0] | rw [mk_w1 hw0] | rw [mk_w2 hw0] | rw [mk_w3 hw0]); all_goals (first | rfl | simp [un]))
    · rw [upd_no (by omega), upd_no (by omega), upd_no (by omega), upd_no (by omega), mk_w0 hw0, mk_w1 hw0, mk_w2 hw0, mk_w3 hw0]
      all_goals (first | (refine ⟨?_, ?_, ?_, ?_⟩ <;> first | rfl | (simp [un, e]; done)) | simp [un, e])
  · rw [upd_no (by omega), upd_no (by omega), upd_no (by omega), upd_no (by omega), upd_no (by omega), mk_g0 hg0, mk_g1 hg0, mk_g2 hg0, mk_g3 hg0, mk_g4 hg0, mk_g0 hg0, mk_g1 hg0, mk_g2 hg0, mk_g3 hg0, mk_g4 hg0]
    exact ⟨rfl, rfl, rfl, rfl, rfl⟩
  · rw [upd_no (by omega), mk_r hr, mk_r hr]
    all_goals (first | rfl | simp [un])
  · rw [upd_no (by omega), mk_s hi, mk_s hi]
theorem mk_u_r {a : Nat} {x : Nat} (ha : a < 24) : upd (mk S mo pr fa sc ch rc ρ) (62 + a) (nI x) = mk (un S 8 (un (S 8) a x)) mo pr fa sc ch rc ρ := by
  funext i
  revert i
  refine mk_cases (fun i hi => ?_) (fun w0 hw0 => ?_) (fun g0 hg0 => ?_) (fun r hr => ?_) (fun i hi => ?_)
  · rw [upd_no (by omega)]
    rcases (show i = 0 ∨ i = 1 ∨ i = 2 ∨ i = 3 ∨ i = 4 ∨ i = 5 ∨ i = 6 ∨ i = 7 by omega) with e | e | e | e | e | e | e | e <;> subst e <;> rfl
  · rw [upd_no (by omega), upd_no (by omega), upd_no (by omega), upd_no (by omega), mk_w0 hw0, mk_w1 hw0, mk_w2 hw0, mk_w3 hw0, mk_w0 hw0, mk_w1 hw0, mk_w2 hw0, mk_w3 hw0]
    exact ⟨rfl, rfl, rfl, rfl⟩
  · rw [upd_no (by omega), upd_no (by omega), upd_no (by omega), upd_no (by omega), upd_no (by omega), mk_g0 hg0, mk_g1 hg0, mk_g2 hg0, mk_g3 hg0, mk_g4 hg0, mk_g0 hg0, mk_g1 hg0, mk_g2 hg0, mk_g3 hg0, mk_g4 hg0]
    exact ⟨rfl, rfl, rfl, rfl, rfl⟩
  · by_cases e : r = a
    · subst e
      rw [upd_at, mk_r hr]
      simp [un]
    · rw [upd_no (by omega), mk_r hr, mk_r hr]
      simp [un, e]
  · rw [upd_no (by omega), mk_s hi, mk_s hi]
/-- what a girl is asked for -/
def gq (S : Nat → Nat → Nat) (mo : Nat) (pr fa : Nat → Nat) (D : zD6) (g : Nat) : Nat → Nat
  | 0 => S 1 g | 1 => S 2 g | 2 => S 3 g | 3 => pr g | 4 => fa g | _ => D (S 1 g) mo (fa g) (S 3 g) (S 2 g) g
def wq (S : Nat → Nat → Nat) (mo : Nat) (pr : Nat → Nat) (w : Nat) : Nat → Nat
  | 0 => S 4 w | 1 => S 5 w | 2 => S 6 w | 3 => S 7 w | 4 => brN pr w (S 0 0) | _ => if blB S w mo = true then 1 else 0
theorem mk_gq {D : zD6} {g j : Nat} (hg : g < 6) (hj : j ≤ 5) (h5 : j ≠ 5) (h3 : j ≠ 3) : mk S mo pr fa sc ch rc ρ (32 + 5 * g + j) = nI (gq S mo pr fa D g j) := by
  rcases (show j = 0 ∨ j = 1 ∨ j = 2 ∨ j = 4 by omega) with e | e | e | e <;> subst e
  · exact mk_g0 hg
  · exact mk_g1 hg
  · exact mk_g2 hg
  · exact mk_g4 hg
theorem mk_wq {w j : Nat} (hw : w < 6) (hj : j < 4) : mk S mo pr fa sc ch rc ρ (8 + 4 * w + j) = nI (wq S mo pr w j) := by
  rcases (show j = 0 ∨ j = 1 ∨ j = 2 ∨ j = 3 by omega) with e | e | e | e <;> subst e
  · exact mk_w0 hw
  · exact mk_w1 hw
  · exact mk_w2 hw
  · exact mk_w3 hw
end MKW
def f_girlOf : zκ → Int32 → Int32 → Int32 × zκ
  | (S, mo, pr, fa, sc, ch, rc, D), x, y =>
    if 0 ≤ x ∧ x < nI (S 0 0) then (if nI 0 ≤ y ∧ y ≤ nI 5 then (nI (gq S mo pr fa D (tN x) (tN y)), (S, mo, pr, fa, sc, ch, rc, D)) else (-1, (S, mo, pr, fa, sc, ch, rc, D))) else (-1, (S, mo, pr, fa, sc, ch, rc, D))
def f_windOf : zκ → Int32 → Int32 → Int32 × zκ
  | (S, mo, pr, fa, sc, ch, rc, D), x, y =>
    if 0 ≤ x ∧ x < nI (S 0 1) then (if nI 0 ≤ y ∧ y ≤ nI 5 then (nI (wq S mo pr (tN x) (tN y)), (S, mo, pr, fa, sc, ch, rc, D)) else (-1, (S, mo, pr, fa, sc, ch, rc, D))) else (-1, (S, mo, pr, fa, sc, ch, rc, D))
def f_change : zκ → Int32 → Int32 → Int32 → Int32 × zκ
  | (S, mo, pr, fa, sc, ch, rc, D), x, y, v =>
    if 0 ≤ x ∧ x < nI (S 0 0) then
      (if y = nI 1 ∧ (nI 0 ≤ v ∧ v ≤ nI 7) then (nI (S 2 (tN x)), (un S 2 (un (S 2) (tN x) (tN v)), mo, pr, fa, sc, ch, rc, D))
       else if y = nI 2 ∧ (nI 1 ≤ v ∧ v ≤ nI 9) then (nI (S 3 (tN x)), (un S 3 (un (S 3) (tN x) (tN v)), mo, pr, fa, sc, ch, rc, D))
       else (-1, (S, mo, pr, fa, sc, ch, rc, D)))
    else (-1, (S, mo, pr, fa, sc, ch, rc, D))
def f_remake : zκ → Int32 → Int32 → Int32 × zκ
  | (S, mo, pr, fa, sc, ch, rc, D), x, y =>
    if 0 ≤ x ∧ x < nI (S 0 0) then (if nI 1 ≤ y ∧ y ≤ nI 5 then (nI (S 1 (tN x)), (un S 1 (un (S 1) (tN x) (tN y)), mo, pr, fa, sc, ch, rc, D)) else (-1, (S, mo, pr, fa, sc, ch, rc, D))) else (-1, (S, mo, pr, fa, sc, ch, rc, D))
def f_promise : zκ → Int32 → Int32 → Int32 × zκ
  | (S, mo, pr, fa, sc, ch, rc, D), x, y =>
    if 0 ≤ x ∧ x < nI (S 0 0) then
      (if y = -1 then (nI (pr (tN x)), (S, mo, un pr (tN x) 6, un fa (tN x) (S 3 (tN x)), sc, ch, rc, D))
       else if 0 ≤ y ∧ y < nI (S 0 1) then (nI (pr (tN x)), (S, mo, un pr (tN x) (tN y), un fa (tN x) (S 3 (tN x)), sc, ch, rc, D))
       else (-1, (S, mo, pr, fa, sc, ch, rc, D)))
    else (-1, (S, mo, pr, fa, sc, ch, rc, D))
def f_gain : zκ → Int32 → Int32 → Int32 → Int32 × zκ
  | (S, mo, pr, fa, sc, ch, rc, D), x, y, z =>
    if (0 ≤ x ∧ x < nI (S 0 0)) ∧ (0 ≤ y ∧ y < nI (S 0 1)) ∧ (nI 0 ≤ z ∧ z ≤ nI 15) then (nI (gS S (tN x) (tN y) (tN z)), (S, mo, pr, fa, sc, ch, rc, D)) else (-1, (S, mo, pr, fa, sc, ch, rc, D))
def f_ends : zκ → Int32 → Int32 × zκ
  | (S, mo, pr, fa, sc, ch, rc, D), x =>
    if nI 1 ≤ x ∧ x ≤ nI 16 then (if mo ≤ tN x then (nI (S 0 3), (un S 0 (un (S 0) 3 (tN x)), mo, pr, fa, sc, ch, rc, D)) else (-4, (S, mo, pr, fa, sc, ch, rc, D))) else (-1, (S, mo, pr, fa, sc, ch, rc, D))
def f_seed : zκ → Int32 → Int32 × zκ
  | (S, mo, pr, fa, sc, ch, rc, D), x => (ch, (S, mo, pr, fa, sc, x, rc, D))
def f_forget : zκ → Int32 × zκ
  | (S, mo, pr, fa, sc, ch, rc, D) => (nI (S 0 2), (un S 0 (un (S 0) 2 0), mo, pr, fa, sc, ch, rc, D))
def f_state : zκ → Int32 → Int32 × zκ
  | (S, mo, pr, fa, sc, ch, rc, D), x => (if x = nI 0 then nI mo else if x = nI 1 then nI (S 0 3) else if x = nI 2 then sc else if x = nI 3 then (if S 0 3 ≤ mo then nI 1 else nI 0) else -1, (S, mo, pr, fa, sc, ch, rc, D))
theorem iS_1 {S : Nat → Nat → Nat} (hi : iS S) {g x : Nat} (h : x ≤ 5) : iS (un S 1 (un (S 1) g x)) := by
  obtain ⟨a1, a2, a3, a4, a5, a6⟩ := hi
  refine ⟨a1, a2, a3, a4, a5, fun j => ?_⟩
  obtain ⟨b1, b2, b3, b4, b5, b6, b7, b8, b9⟩ := a6 j
  exact ⟨by show (if j = g then x else S 1 j) ≤ _; split <;> omega, b2, b3, b4, b5, b6, b7, b8, b9⟩
theorem iS_2 {S : Nat → Nat → Nat} (hi : iS S) {g x : Nat} (h : x ≤ 7) : iS (un S 2 (un (S 2) g x)) := by
  obtain ⟨a1, a2, a3, a4, a5, a6⟩ := hi
  refine ⟨a1, a2, a3, a4, a5, fun j => ?_⟩
  obtain ⟨b1, b2, b3, b4, b5, b6, b7, b8, b9⟩ := a6 j
  exact ⟨b1, by show (if j = g then x else S 2 j) ≤ _; split <;> omega, b3, b4, b5, b6, b7, b8, b9⟩
theorem iS_3 {S : Nat → Nat → Nat} (hi : iS S) {g x : Nat} (h : 1 ≤ x ∧ x ≤ 9) : iS (un S 3 (un (S 3) g x)) := by
  obtain ⟨a1, a2, a3, a4, a5, a6⟩ := hi
  refine ⟨a1, a2, a3, a4, a5, fun j => ?_⟩
  obtain ⟨b1, b2, b3, b4, b5, b6, b7, b8, b9⟩ := a6 j
  exact ⟨b1, b2, by show (if j = g then x else S 3 j) ≤ _; split <;> omega, b4, b5, b6, b7, b8, fun hj => by have := b9 hj; show 1 ≤ (if j = g then x else S 3 j); split <;> omega⟩
theorem iS_4 {S : Nat → Nat → Nat} (hi : iS S) {g x : Nat} (h : x ≤ 7) : iS (un S 4 (un (S 4) g x)) := by
  obtain ⟨a1, a2, a3, a4, a5, a6⟩ := hi
  refine ⟨a1, a2, a3, a4, a5, fun j => ?_⟩
  obtain ⟨b1, b2, b3, b4, b5, b6, b7, b8, b9⟩ := a6 j
  exact ⟨b1, b2, b3, by show (if j = g then x else S 4 j) ≤ _; split <;> omega, b5, b6, b7, b8, b9⟩
theorem iS_5 {S : Nat → Nat → Nat} (hi : iS S) {g x : Nat} (h : x ≤ 9) : iS (un S 5 (un (S 5) g x)) := by
  obtain ⟨a1, a2, a3, a4, a5, a6⟩ := hi
  refine ⟨a1, a2, a3, a4, a5, fun j => ?_⟩
  obtain ⟨b1, b2, b3, b4, b5, b6, b7, b8, b9⟩ := a6 j
  exact ⟨b1, b2, b3, b4, by show (if j = g then x else S 5 j) ≤ _; split <;> omega, b6, b7, b8, b9⟩
theorem iS_6 {S : Nat → Nat → Nat} (hi : iS S) {g x : Nat} (h : x ≤ 15) : iS (un S 6 (un (S 6) g x)) := by
  obtain ⟨a1, a2, a3, a4, a5, a6⟩ := hi
  refine ⟨a1, a2, a3, a4, a5, fun j => ?_⟩
  obtain ⟨b1, b2, b3, b4, b5, b6, b7, b8, b9⟩ := a6 j
  exact ⟨b1, b2, b3, b4, b5, by show (if j = g then x else S 6 j) ≤ _; split <;> omega, b7, b8, b9⟩
theorem iS_7 {S : Nat → Nat → Nat} (hi : iS S) {g x : Nat} (h : x ≤ 15) : iS (un S 7 (un (S 7) g x)) := by
  obtain ⟨a1, a2, a3, a4, a5, a6⟩ := hi
  refine ⟨a1, a2, a3, a4, a5, fun j => ?_⟩
  obtain ⟨b1, b2, b3, b4, b5, b6, b7, b8, b9⟩ := a6 j
  exact ⟨b1, b2, b3, b4, b5, b6, by show (if j = g then x else S 7 j) ≤ _; split <;> omega, b8, b9⟩
theorem iS_8 {S : Nat → Nat → Nat} (hi : iS S) {g x : Nat} (h : x ≤ 99) : iS (un S 8 (un (S 8) g x)) := by
  obtain ⟨a1, a2, a3, a4, a5, a6⟩ := hi
  refine ⟨a1, a2, a3, a4, a5, fun j => ?_⟩
  obtain ⟨b1, b2, b3, b4, b5, b6, b7, b8, b9⟩ := a6 j
  exact ⟨b1, b2, b3, b4, b5, b6, b7, by show (if j = g then x else S 8 j) ≤ _; split <;> omega, b9⟩
theorem iS_en {S : Nat → Nat → Nat} (hi : iS S) {x : Nat} (h : 1 ≤ x ∧ x ≤ 16) : iS (un S 0 (un (S 0) 3 x)) := by
  obtain ⟨a1, a2, a3, a4, a5, a6⟩ := hi
  exact ⟨a1, a2, a3, h.1, h.2, a6⟩
theorem iS_nw {S : Nat → Nat → Nat} (hi : iS S) {x : Nat} (h : x ≤ 6) : iS (un S 0 (un (S 0) 1 x)) := by
  obtain ⟨a1, a2, a3, a4, a5, a6⟩ := hi
  exact ⟨a1, h, a3, a4, a5, a6⟩
theorem iS_nr {S : Nat → Nat → Nat} (hi : iS S) {x : Nat} (h : x ≤ 6) : iS (un S 0 (un (S 0) 2 x)) := by
  obtain ⟨a1, a2, a3, a4, a5, a6⟩ := hi
  exact ⟨a1, a2, h, a4, a5, a6⟩
theorem iX_pr {S : Nat → Nat → Nat} {pr fa : Nat → Nat} (hi : iS S) (hx : iX S pr fa) {g w : Nat} (hg : g < S 0 0) (hw : w < S 0 1 ∨ w = 6) : iX S (un pr g w) (un fa g (S 3 g)) := by
  intro j
  obtain ⟨b1, b2, b3⟩ := hx j
  have c1 := hi.2.1
  obtain ⟨d1, d2, d3, d4, d5, d6, d7, d8, d9⟩ := hi.2.2.2.2.2 g
  unfold un
  by_cases e : j = g
  · rw [if_pos e, if_pos e]; exact ⟨by omega, d3, fun _ => ⟨d9 hg, hw⟩⟩
  · rw [if_neg e, if_neg e]; exact ⟨b1, b2, b3⟩
set_option maxHeartbeats 4000000 in
set_option maxRecDepth 100000 in
theorem c_Wb_girlOf {G : zG} {n u : Nat} {μ : Nat → va_E} {κ : zκ} {kp : Int32} {ac : Value} (h : cst μ κ) (hob : isOb μ kp ac) (x y : Int32) :
    zMet G 4 M_Wb_girlOf [.ref 4, .int x, .int y] n u μ n u (cK μ (f_girlOf κ x y)) := by
  obtain ⟨S, mo, pr, fa, sc, ch, rc, D⟩ := κ
  have hst := h
  obtain ⟨h1, ⟨cs, q, h2⟩, ⟨β, its, h3, h3a, h3b⟩, ⟨c23, h4⟩, h5⟩ := h
  have hk5 := h5
  obtain ⟨hi, hx, hmo, hrc⟩ := h5
  have hi0 := hi.1
  have hi1 := hi.2.1
  have hi2 := hi.2.2.1
  have hi3 := hi.2.2.2.2.1
  refine z_start (lv := [.ref 4, .int x, .int y]) K_Wb_girlOf rfl rfl (Nat.le_refl _) (Nat.le_refl _) (Nat.le_of_ble_eq_true rfl) rfl ?_
  unfold isOb at hob
  refine z_mu (pcc_id h1 h2).symm ?_
  refine z_al0 (pc' := 1) 0 rfl rfl ?_
  refine z_getf (pc' := 4) 1 rfl rfl f_Wb_10_11 (by first | exact pcc_5 | exact pcc_6 | exact pcc_7 | exact pcc_8 | exact pcc_9 | exact pcc_10 | exact pcc_11 | exact pcc_12 | exact pcc_13 | exact pcc_14 | exact pcc_15 | exact pcc_22 | (rw [pcc_o (by decide)]; assumption)) (by rfl) ?_
  refine z_il1 (pc' := 5) 2 rfl rfl ?_
  refine z_callV1 (pc' := 8) 3 rfl rfl k_Wb_84 (by first | exact pcc_5 | exact pcc_6 | exact pcc_7 | exact pcc_8 | exact pcc_9 | exact pcc_10 | exact pcc_11 | exact pcc_12 | exact pcc_13 | exact pcc_14 | exact pcc_15 | exact pcc_22 | (rw [pcc_o (by decide)]; assumption)) (c_Co_hasGirl isCo_pcc hi _) (by decide) (Nat.le_refl _) (Nat.le_refl _) rfl rfl (Nat.le_of_ble_eq_true rfl) ?_
  first | refine z_if_neB (pc' := 11) 4 rfl rfl (tgt := 13) rfl (fun h8 => ?_) (fun h8 => ?_) | refine z_if_neN (pc' := 11) 4 rfl rfl (tgt := 13) rfl (by omega) (fun h8 => ?_) (fun h8 => ?_) | refine z_if_ne (pc' := 11) 4 rfl rfl (tgt := 13) rfl (fun h8 => ?_) (fun h8 => ?_)
  · obtain ⟨g, hg, rfl⟩ := z_in h8 (by omega)
    refine z_il2 (pc' := 14) 7 rfl rfl ?_
    first | refine z_swN (by omega) 0 (by decide) (fun h14_0 => ?_) (fun h14_0 => ?_) | refine z_sw 0 (fun h14_0 => ?_) (fun h14_0 => ?_)
    · refine z_tableIn 8 rfl (by decide) (by decide) (off := 38) rfl (tgt := 52) rfl ?_
      refine z_al0 (pc' := 53) 9 rfl rfl ?_
      refine z_getf (pc' := 56) 10 rfl rfl f_Wb_10_11 (by first | exact pcc_5 | exact pcc_6 | exact pcc_7 | exact pcc_8 | exact pcc_9 | exact pcc_10 | exact pcc_11 | exact pcc_12 | exact pcc_13 | exact pcc_14 | exact pcc_15 | exact pcc_22 | (rw [pcc_o (by decide)]; assumption)) (by rfl) ?_
      refine z_getr (pc' := 59) 11 rfl rfl f_Wb_88_3 (by first | exact pcc_5 | exact pcc_6 | exact pcc_7 | exact pcc_8 | exact pcc_9 | exact pcc_10 | exact pcc_11 | exact pcc_12 | exact pcc_13 | exact pcc_14 | exact pcc_15 | exact pcc_22 | (rw [pcc_o (by decide)]; assumption)) (by rfl) ?_
      refine z_il1 (pc' := 60) 12 rfl rfl ?_
      refine z_iald (pc' := 61) 13 rfl rfl (by first | exact pcc_5 | exact pcc_6 | exact pcc_7 | exact pcc_8 | exact pcc_9 | exact pcc_10 | exact pcc_11 | exact pcc_12 | exact pcc_13 | exact pcc_14 | exact pcc_15 | exact pcc_22 | (rw [pcc_o (by decide)]; assumption)) (by omega) (by decide) ?_
      exact z_ireturn 14 rfl rfl (by first | rfl | exact zbo_nar) rfl rfl (by show cK μ _ _ _; rw [f_girlOf, if_pos h8, h14_0, if_pos (by decide), tN_n (by omega), tN_n (by decide)]; exact cK_of hst rfl rfl (hk5))
    first | refine z_swN (by omega) 1 (by decide) (fun h14_1 => ?_) (fun h14_1 => ?_) | refine z_sw 1 (fun h14_1 => ?_) (fun h14_1 => ?_)
    · refine z_tableIn 8 rfl (by decide) (by decide) (off := 48) rfl (tgt := 62) rfl ?_
      refine z_al0 (pc' := 63) 15 rfl rfl ?_
      refine z_getf (pc' := 66) 16 rfl rfl f_Wb_10_11 (by first | exact pcc_5 | exact pcc_6 | exact pcc_7 | exact pcc_8 | exact pcc_9 | exact pcc_10 | exact pcc_11 | exact pcc_12 | exact pcc_13 | exact pcc_14 | exact pcc_15 | exact pcc_22 | (rw [pcc_o (by decide)]; assumption)) (by rfl) ?_
      refine z_getr (pc' := 69) 17 rfl rfl f_Wb_91_3 (by first | exact pcc_5 | exact pcc_6 | exact pcc_7 | exact pcc_8 | exact pcc_9 | exact pcc_10 | exact pcc_11 | exact pcc_12 | exact pcc_13 | exact pcc_14 | exact pcc_15 | exact pcc_22 | (rw [pcc_o (by decide)]; assumption)) (by rfl) ?_
      refine z_il1 (pc' := 70) 18 rfl rfl ?_
      refine z_iald (pc' := 71) 19 rfl rfl (by first | exact pcc_5 | exact pcc_6 | exact pcc_7 | exact pcc_8 | exact pcc_9 | exact pcc_10 | exact pcc_11 | exact pcc_12 | exact pcc_13 | exact pcc_14 | exact pcc_15 | exact pcc_22 | (rw [pcc_o (by decide)]; assumption)) (by omega) (by decide) ?_
      exact z_ireturn 20 rfl rfl (by first | rfl | exact zbo_nar) rfl rfl (by show cK μ _ _ _; rw [f_girlOf, if_pos h8, h14_1, if_pos (by decide), tN_n (by omega), tN_n (by decide)]; exact cK_of hst rfl rfl (hk5))
    first | refine z_swN (by omega) 2 (by decide) (fun h14_2 => ?_) (fun h14_2 => ?_) | refine z_sw 2 (fun h14_2 => ?_) (fun h14_2 => ?_)
    · refine z_tableIn 8 rfl (by decide) (by decide) (off := 58) rfl (tgt := 72) rfl ?_
      refine z_al0 (pc' := 73) 21 rfl rfl ?_
      refine z_getf (pc' := 76) 22 rfl rfl f_Wb_10_11 (by first | exact pcc_5 | exact pcc_6 | exact pcc_7 | exact pcc_8 | exact pcc_9 | exact pcc_10 | exact pcc_11 | exact pcc_12 | exact pcc_13 | exact pcc_14 | exact pcc_15 | exact pcc_22 | (rw [pcc_o (by decide)]; assumption)) (by rfl) ?_
      refine z_getr (pc' := 79) 23 rfl rfl f_Wb_94_3 (by first | exact pcc_5 | exact pcc_6 | exact pcc_7 | exact pcc_8 | exact pcc_9 | exact pcc_10 | exact pcc_11 | exact pcc_12 | exact pcc_13 | exact pcc_14 | exact pcc_15 | exact pcc_22 | (rw [pcc_o (by decide)]; assumption)) (by rfl) ?_
      refine z_il1 (pc' := 80) 24 rfl rfl ?_
      refine z_iald (pc' := 81) 25 rfl rfl (by first | exact pcc_5 | exact pcc_6 | exact pcc_7 | exact pcc_8 | exact pcc_9 | exact pcc_10 | exact pcc_11 | exact pcc_12 | exact pcc_13 | exact pcc_14 | exact pcc_15 | exact pcc_22 | (rw [pcc_o (by decide)]; assumption)) (by omega) (by decide) ?_
      exact z_ireturn 26 rfl rfl (by first | rfl | exact zbo_nar) rfl rfl (by show cK μ _ _ _; rw [f_girlOf, if_pos h8, h14_2, if_pos (by decide), tN_n (by omega), tN_n (by decide)]; exact cK_of hst rfl rfl (hk5))
    first | refine z_swN (by omega) 3 (by decide) (fun h14_3 => ?_) (fun h14_3 => ?_) | refine z_sw 3 (fun h14_3 => ?_) (fun h14_3 => ?_)
    · refine z_tableIn 8 rfl (by decide) (by decide) (off := 68) rfl (tgt := 82) rfl ?_
      refine z_al0 (pc' := 83) 27 rfl rfl ?_
      refine z_getf (pc' := 86) 28 rfl rfl f_Wb_10_11 (by first | exact pcc_5 | exact pcc_6 | exact pcc_7 | exact pcc_8 | exact pcc_9 | exact pcc_10 | exact pcc_11 | exact pcc_12 | exact pcc_13 | exact pcc_14 | exact pcc_15 | exact pcc_22 | (rw [pcc_o (by decide)]; assumption)) (by rfl) ?_
      refine z_getr (pc' := 89) 29 rfl rfl f_Wb_97_3 (by first | exact pcc_5 | exact pcc_6 | exact pcc_7 | exact pcc_8 | exact pcc_9 | exact pcc_10 | exact pcc_11 | exact pcc_12 | exact pcc_13 | exact pcc_14 | exact pcc_15 | exact pcc_22 | (rw [pcc_o (by decide)]; assumption)) (by rfl) ?_
      refine z_getr (pc' := 92) 30 rfl rfl f_Wb_100_4 (by first | exact pcc_5 | exact pcc_6 | exact pcc_7 | exact pcc_8 | exact pcc_9 | exact pcc_10 | exact pcc_11 | exact pcc_12 | exact pcc_13 | exact pcc_14 | exact pcc_15 | exact pcc_22 | (rw [pcc_o (by decide)]; assumption)) (by rfl) ?_
      refine z_il1 (pc' := 93) 31 rfl rfl ?_
      refine z_iald (pc' := 94) 32 rfl rfl (by first | exact pcc_5 | exact pcc_6 | exact pcc_7 | exact pcc_8 | exact pcc_9 | exact pcc_10 | exact pcc_11 | exact pcc_12 | exact pcc_13 | exact pcc_14 | exact pcc_15 | exact pcc_22 | (rw [pcc_o (by decide)]; assumption)) (by omega) (by decide) ?_
      exact z_ireturn 33 rfl rfl (by first | rfl | exact zbo_nar) rfl rfl (by show cK μ _ _ _; rw [f_girlOf, if_pos h8, h14_3, if_pos (by decide), tN_n (by omega), tN_n (by decide)]; exact cK_of hst rfl rfl (hk5))
    first | refine z_swN (by omega) 4 (by decide) (fun h14_4 => ?_) (fun h14_4 => ?_) | refine z_sw 4 (fun h14_4 => ?_) (fun h14_4 => ?_)
    · refine z_tableIn 8 rfl (by decide) (by decide) (off := 81) rfl (tgt := 95) rfl ?_
      refine z_al0 (pc' := 96) 34 rfl rfl ?_
      refine z_getf (pc' := 99) 35 rfl rfl f_Wb_10_11 (by first | exact pcc_5 | exact pcc_6 | exact pcc_7 | exact pcc_8 | exact pcc_9 | exact pcc_10 | exact pcc_11 | exact pcc_12 | exact pcc_13 | exact pcc_14 | exact pcc_15 | exact pcc_22 | (rw [pcc_o (by decide)]; assumption)) (by rfl) ?_
      refine z_getr (pc' := 102) 36 rfl rfl f_Wb_97_3 (by first | exact pcc_5 | exact pcc_6 | exact pcc_7 | exact pcc_8 | exact pcc_9 | exact pcc_10 | exact pcc_11 | exact pcc_12 | exact pcc_13 | exact pcc_14 | exact pcc_15 | exact pcc_22 | (rw [pcc_o (by decide)]; assumption)) (by rfl) ?_
      refine z_getr (pc' := 105) 37 rfl rfl f_Wb_103_4 (by first | exact pcc_5 | exact pcc_6 | exact pcc_7 | exact pcc_8 | exact pcc_9 | exact pcc_10 | exact pcc_11 | exact pcc_12 | exact pcc_13 | exact pcc_14 | exact pcc_15 | exact pcc_22 | (rw [pcc_o (by decide)]; assumption)) (by rfl) ?_
      refine z_il1 (pc' := 106) 38 rfl rfl ?_
      refine z_iald (pc' := 107) 39 rfl rfl (by first | exact pcc_5 | exact pcc_6 | exact pcc_7 | exact pcc_8 | exact pcc_9 | exact pcc_10 | exact pcc_11 | exact pcc_12 | exact pcc_13 | exact pcc_14 | exact pcc_15 | exact pcc_22 | (rw [pcc_o (by decide)]; assumption)) (by omega) (by decide) ?_
      exact z_ireturn 40 rfl rfl (by first | rfl | exact zbo_nar) rfl rfl (by show cK μ _ _ _; rw [f_girlOf, if_pos h8, h14_4, if_pos (by decide), tN_n (by omega), tN_n (by decide)]; exact cK_of hst rfl rfl (hk5))
    first | refine z_swN (by omega) 5 (by decide) (fun h14_5 => ?_) (fun h14_5 => ?_) | refine z_sw 5 (fun h14_5 => ?_) (fun h14_5 => ?_)
    · refine z_tableIn 8 rfl (by decide) (by decide) (off := 94) rfl (tgt := 108) rfl ?_
      refine z_al0 (pc' := 109) 41 rfl rfl ?_
      refine z_getf (pc' := 112) 42 rfl rfl f_Wb_10_11 (by first | exact pcc_5 | exact pcc_6 | exact pcc_7 | exact pcc_8 | exact pcc_9 | exact pcc_10 | exact pcc_11 | exact pcc_12 | exact pcc_13 | exact pcc_14 | exact pcc_15 | exact pcc_22 | (rw [pcc_o (by decide)]; assumption)) (by rfl) ?_
      refine z_getr (pc' := 115) 43 rfl rfl f_Wb_97_3 (by first | exact pcc_5 | exact pcc_6 | exact pcc_7 | exact pcc_8 | exact pcc_9 | exact pcc_10 | exact pcc_11 | exact pcc_12 | exact pcc_13 | exact pcc_14 | exact pcc_15 | exact pcc_22 | (rw [pcc_o (by decide)]; assumption)) (by rfl) ?_
      refine z_al0 (pc' := 116) 44 rfl rfl ?_
      refine z_getf (pc' := 119) 45 rfl rfl f_Wb_10_11 (by first | exact pcc_5 | exact pcc_6 | exact pcc_7 | exact pcc_8 | exact pcc_9 | exact pcc_10 | exact pcc_11 | exact pcc_12 | exact pcc_13 | exact pcc_14 | exact pcc_15 | exact pcc_22 | (rw [pcc_o (by decide)]; assumption)) (by rfl) ?_
      refine z_il1 (pc' := 120) 46 rfl rfl ?_
      refine z_callV1 (pc' := 123) 47 rfl rfl k_Wb_106 (by first | exact pcc_5 | exact pcc_6 | exact pcc_7 | exact pcc_8 | exact pcc_9 | exact pcc_10 | exact pcc_11 | exact pcc_12 | exact pcc_13 | exact pcc_14 | exact pcc_15 | exact pcc_22 | (rw [pcc_o (by decide)]; assumption)) (c_doesC hi h3 h3a (by omega) (by omega) (fun j => (hx j).2.1)) (by decide) (Nat.le_refl _) (Nat.le_refl _) rfl rfl (Nat.le_of_ble_eq_true rfl) ?_
      exact z_ireturn 48 rfl rfl (by first | rfl | exact zbo_nar) rfl rfl (by show cK μ _ _ _; rw [f_girlOf, if_pos h8, h14_5, if_pos (by decide), tN_n (by omega), tN_n (by decide)]; exact cK_of hst rfl rfl (hk5))
    refine z_tableOut 8 rfl (by first | (rw [nI_toInt (by omega)]; omega) | (have e0 := z_ne (by decide) h14_0; have e1 := z_ne (by decide) h14_1; have e2 := z_ne (by decide) h14_2; have e3 := z_ne (by decide) h14_3; have e4 := z_ne (by decide) h14_4; have e5 := z_ne (by decide) h14_5; omega)) (tgt := 124) rfl ?_
    refine z_iconst (v := (-1)) (by decide) (pc' := 125) 49 rfl rfl ?_
    exact z_ireturn 50 rfl rfl (by first | rfl | exact zbo_nar) rfl rfl (by show cK μ _ _ _; rw [f_girlOf, if_pos h8, if_neg (z_no (by decide) (fun j hj => by rcases (show j = 0 ∨ j = 1 ∨ j = 2 ∨ j = 3 ∨ j = 4 ∨ j = 5 by omega) with e | e | e | e | e | e <;> subst e <;> assumption))]; exact cK_of hst rfl rfl (hk5))
  · refine z_iconst (v := (-1)) (by decide) (pc' := 12) 5 rfl rfl ?_
    exact z_ireturn 6 rfl rfl (by first | rfl | exact zbo_nar) rfl rfl (by show cK μ _ _ _; rw [f_girlOf, if_neg h8]; exact cK_of hst rfl rfl (hk5))
set_option maxHeartbeats 4000000 in
set_option maxRecDepth 100000 in
theorem c_Mo_girlOf {G : zG} {n u : Nat} {μ : Nat → va_E} {κ : zκ} {s : Nat → Int32} (h : mst μ s κ) (x y : Int32) :
    zMet G 4 M_Mo_girlOf [.ref 88, .int x, .int y] n u μ n u (mK μ s (f_girlOf κ x y)) := by
  obtain ⟨S, mo, pr, fa, sc, ch, rc, D⟩ := κ
  have hst := h
  obtain ⟨⟨ρ, h1, hD⟩, h2, ⟨q93, h93⟩, ⟨q91, h91⟩, ⟨q94, h94⟩, ⟨q95, h95⟩, ⟨q96, h96⟩, ⟨q97, h97⟩, h5⟩ := h
  have hk5 := h5
  obtain ⟨hi, hx, hmo, hrc⟩ := h5
  have hi0 := hi.1
  have hi1 := hi.2.1
  have hi2 := hi.2.2.1
  have hi3 := hi.2.2.2.2.1
  have hm16 : mo ≤ 16 := by omega
  refine z_start (lv := [.ref 88, .int x, .int y]) K_Mo_girlOf rfl rfl (Nat.le_refl _) (Nat.le_refl _) (Nat.le_of_ble_eq_true rfl) rfl ?_
  refine z_mu (show μ = pm (zu (zu μ 91 (.inl (0, 618, .inl q91))) 93 (.inl (1, 100, .inl q93))) s (mk S mo pr fa sc ch rc ρ) by rw [zu_id h91, zu_id h93, pm_id h2 h1]) ?_
  refine z_al0 (pc' := 1) 0 rfl rfl ?_
  refine z_il1 (pc' := 2) 1 rfl rfl ?_
  refine z_callV1 (pc' := 5) 2 rfl rfl k_Mo_92 (by first | exact pm_f | exact pm_1 | (rw [pm_o (by decide)]; first | exact zu_s | (rw [zu_n (by decide)]; first | exact zu_s | (rw [zu_n (by decide)]; assumption)))) (c_Mo_isGirl hi _) (by decide) (Nat.le_refl _) (Nat.le_refl _) rfl rfl (Nat.le_of_ble_eq_true rfl) ?_
  first | refine z_if_eqB (pc' := 8) 3 rfl rfl (tgt := 17) rfl (fun h5 => ?_) (fun h5 => ?_) | refine z_if_eqN (pc' := 8) 3 rfl rfl (tgt := 17) rfl (by omega) (fun h5 => ?_) (fun h5 => ?_) | refine z_if_eq (pc' := 8) 3 rfl rfl (tgt := 17) rfl (fun h5 => ?_) (fun h5 => ?_)
  · refine z_iconst (v := (-1)) (by decide) (pc' := 18) 9 rfl rfl ?_
    exact z_ireturn 10 rfl rfl (by first | rfl | exact zbo_nar) rfl rfl (by show mK μ s _ _ _; rw [f_girlOf, if_neg h5]; exact mK_of3 hst (sEq_r) hD (hk5))
  · refine z_il2 (pc' := 9) 4 rfl rfl ?_
    refine z_iconst (v := nI 0) (by decide) (pc' := 10) 5 rfl rfl ?_
    refine z_iconst (v := nI 5) (by decide) (pc' := 11) 6 rfl rfl ?_
    refine z_callS1 (pc' := 14) 7 rfl rfl k_Mo_67 (c_Mo_in _ _ _) (by decide) (Nat.le_refl _) (Nat.le_refl _) rfl rfl (Nat.le_of_ble_eq_true rfl) ?_
    first | refine z_if_neB (pc' := 17) 8 rfl rfl (tgt := 19) rfl (fun h14 => ?_) (fun h14 => ?_) | refine z_if_neN (pc' := 17) 8 rfl rfl (tgt := 19) rfl (by omega) (fun h14 => ?_) (fun h14 => ?_) | refine z_if_ne (pc' := 17) 8 rfl rfl (tgt := 19) rfl (fun h14 => ?_) (fun h14 => ?_)
    · obtain ⟨g, hg, rfl⟩ := z_in h5 (by omega)
      obtain ⟨j, hj0, hj5, rfl⟩ := z_wi h14 (by decide) (by decide)
      refine z_il2 (pc' := 20) 11 rfl rfl ?_
      refine z_iconst (v := nI 5) (by decide) (pc' := 21) 12 rfl rfl ?_
      first | refine z_icmp_neN (pc' := 24) 13 rfl rfl (tgt := 32) rfl (by omega) (by omega) (fun h21 => ?_) (fun h21 => ?_) | refine z_icmp_ne (pc' := 24) 13 rfl rfl (tgt := 32) rfl (fun h21 => ?_) (fun h21 => ?_)
      · refine z_il2 (pc' := 33) 18 rfl rfl ?_
        refine z_iconst (v := nI 3) (by decide) (pc' := 34) 19 rfl rfl ?_
        first | refine z_icmp_neN (pc' := 37) 20 rfl rfl (tgt := 49) rfl (by omega) (by omega) (fun h34 => ?_) (fun h34 => ?_) | refine z_icmp_ne (pc' := 37) 20 rfl rfl (tgt := 49) rfl (fun h34 => ?_) (fun h34 => ?_)
        · refine z_al0 (pc' := 50) 27 rfl rfl ?_
          refine z_il1 (pc' := 51) 28 rfl rfl ?_
          refine z_il2 (pc' := 52) 29 rfl rfl ?_
          refine z_callV1 (pc' := 55) 30 rfl rfl k_Mo_75 (by first | exact pm_f | exact pm_1 | (rw [pm_o (by decide)]; first | exact zu_s | (rw [zu_n (by decide)]; first | exact zu_s | (rw [zu_n (by decide)]; assumption)))) (c_Mo_of (by omega)) (by decide) (Nat.le_refl _) (Nat.le_refl _) rfl rfl (Nat.le_of_ble_eq_true rfl) ?_
          rw [mk_gq (D := D) (by omega) hj5 h21 h34]
          exact z_ireturn 31 rfl rfl (by first | rfl | exact zbo_nar) rfl rfl (by show mK μ s _ _ _; rw [f_girlOf, if_pos h5, if_pos h14, tN_n (by omega), tN_n (by omega)]; exact mK_of3 hst (sEq_r) hD (hk5))
        · refine z_al0 (pc' := 38) 21 rfl rfl ?_
          refine z_il1 (pc' := 39) 22 rfl rfl ?_
          refine z_iconst (v := nI 3) (by decide) (pc' := 40) 23 rfl rfl ?_
          refine z_callV1 (pc' := 43) 24 rfl rfl k_Mo_75 (by first | exact pm_f | exact pm_1 | (rw [pm_o (by decide)]; first | exact zu_s | (rw [zu_n (by decide)]; first | exact zu_s | (rw [zu_n (by decide)]; assumption)))) (c_Mo_of3 (by omega)) (by decide) (Nat.le_refl _) (Nat.le_refl _) rfl rfl (Nat.le_of_ble_eq_true rfl) ?_
          refine z_callS1 (pc' := 46) 25 rfl rfl k_Mo_100 (c_Mo_orSix (hx _).1) (by decide) (Nat.le_refl _) (Nat.le_refl _) rfl rfl (Nat.le_of_ble_eq_true rfl) ?_
          refine z_goto 26 rfl (tgt := 55) rfl ?_
          exact z_ireturn 31 rfl rfl (by first | rfl | exact zbo_nar) rfl rfl (by subst h34; show mK μ s _ _ _; rw [f_girlOf, if_pos h5, if_pos h14, tN_n (by omega), tN_n (by omega)]; exact mK_of3 hst (sEq_r) hD (hk5))
      · refine z_al0 (pc' := 25) 14 rfl rfl ?_
        refine z_il1 (pc' := 26) 15 rfl rfl ?_
        refine z_callVX1 (pc' := 29) 16 rfl rfl k_Mo_96 (by first | exact pm_f | exact pm_1 | (rw [pm_o (by decide)]; first | exact zu_s | (rw [zu_n (by decide)]; first | exact zu_s | (rw [zu_n (by decide)]; assumption)))) (c_Mo_does hi hD (by omega) hm16 ((fun j => (hx j).2.1) _)) (by decide) (Nat.le_refl _) (Nat.le_refl _) rfl rfl (Nat.le_of_ble_eq_true rfl) (fun q26 => ?_)
        refine z_goto 17 rfl (tgt := 55) rfl ?_
        exact z_ireturn 31 rfl rfl (by first | rfl | exact zbo_nar) rfl rfl (by subst h21; show mK μ s _ _ _; rw [f_girlOf, if_pos h5, if_pos h14, tN_n (by omega), tN_n (by omega)]; exact mK_of3 hst (sEq_r) hD (hk5))
    · refine z_iconst (v := (-1)) (by decide) (pc' := 18) 9 rfl rfl ?_
      exact z_ireturn 10 rfl rfl (by first | rfl | exact zbo_nar) rfl rfl (by show mK μ s _ _ _; rw [f_girlOf, if_pos h5, if_neg h14]; exact mK_of3 hst (sEq_r) hD (hk5))
set_option maxHeartbeats 4000000 in
set_option maxRecDepth 100000 in
theorem c_Wb_change {G : zG} {n u : Nat} {μ : Nat → va_E} {κ : zκ} {kp : Int32} {ac : Value} (h : cst μ κ) (hob : isOb μ kp ac) (x y v : Int32) :
    zMet G 1 M_Wb_change [.ref 4, .int x, .int y, .int v] n u μ n u (cK μ (f_change κ x y v)) := by
  obtain ⟨S, mo, pr, fa, sc, ch, rc, D⟩ := κ
  have hst := h
  obtain ⟨h1, ⟨cs, q, h2⟩, ⟨β, its, h3, h3a, h3b⟩, ⟨c23, h4⟩, h5⟩ := h
  have hk5 := h5
  obtain ⟨hi, hx, hmo, hrc⟩ := h5
  have hi0 := hi.1
  have hi1 := hi.2.1
  have hi2 := hi.2.2.1
  have hi3 := hi.2.2.2.2.1
  refine z_start (lv := [.ref 4, .int x, .int y, .int v, .retAddr 0]) K_Wb_change rfl rfl (Nat.le_refl _) (Nat.le_refl _) (Nat.le_of_ble_eq_true rfl) rfl ?_
  unfold isOb at hob
  refine z_mu (pcc_id h1 h2).symm ?_
  refine z_al0 (pc' := 1) 0 rfl rfl ?_
  refine z_getf (pc' := 4) 1 rfl rfl f_Wb_10_11 (by first | exact pcc_5 | exact pcc_6 | exact pcc_7 | exact pcc_8 | exact pcc_9 | exact pcc_10 | exact pcc_11 | exact pcc_12 | exact pcc_13 | exact pcc_14 | exact pcc_15 | exact pcc_22 | (rw [pcc_o (by decide)]; assumption)) (by rfl) ?_
  refine z_il1 (pc' := 5) 2 rfl rfl ?_
  refine z_callV1 (pc' := 8) 3 rfl rfl k_Wb_84 (by first | exact pcc_5 | exact pcc_6 | exact pcc_7 | exact pcc_8 | exact pcc_9 | exact pcc_10 | exact pcc_11 | exact pcc_12 | exact pcc_13 | exact pcc_14 | exact pcc_15 | exact pcc_22 | (rw [pcc_o (by decide)]; assumption)) (c_Co_hasGirl isCo_pcc hi _) (by decide) (Nat.le_refl _) (Nat.le_refl _) rfl rfl (Nat.le_of_ble_eq_true rfl) ?_
  first | refine z_if_neB (pc' := 11) 4 rfl rfl (tgt := 13) rfl (fun h8 => ?_) (fun h8 => ?_) | refine z_if_neN (pc' := 11) 4 rfl rfl (tgt := 13) rfl (by omega) (fun h8 => ?_) (fun h8 => ?_) | refine z_if_ne (pc' := 11) 4 rfl rfl (tgt := 13) rfl (fun h8 => ?_) (fun h8 => ?_)
  · obtain ⟨g, hg, rfl⟩ := z_in h8 (by omega)
    refine z_il2 (pc' := 14) 7 rfl rfl ?_
    refine z_iconst (v := nI 1) (by decide) (pc' := 15) 8 rfl rfl ?_
    first | refine z_icmp_neN (pc' := 18) 9 rfl rfl (tgt := 52) rfl (by omega) (by omega) (fun h15 => ?_) (fun h15 => ?_) | refine z_icmp_ne (pc' := 18) 9 rfl rfl (tgt := 52) rfl (fun h15 => ?_) (fun h15 => ?_)
    · refine z_il2 (pc' := 53) 29 rfl rfl ?_
      refine z_iconst (v := nI 2) (by decide) (pc' := 54) 30 rfl rfl ?_
      first | refine z_icmp_neN (pc' := 57) 31 rfl rfl (tgt := 91) rfl (by omega) (by omega) (fun h54 => ?_) (fun h54 => ?_) | refine z_icmp_ne (pc' := 57) 31 rfl rfl (tgt := 91) rfl (fun h54 => ?_) (fun h54 => ?_)
      · refine z_iconst (v := (-1)) (by decide) (pc' := 92) 51 rfl rfl ?_
        exact z_ireturn 52 rfl rfl (by first | rfl | exact zbo_nar) rfl rfl (by show cK μ _ _ _; rw [f_change, if_pos h8, if_neg (fun z => h15 z.1), if_neg (fun z => h54 z.1)]; exact cK_of hst rfl rfl (hk5))
      · refine z_il3 (pc' := 58) 32 rfl rfl ?_
        refine z_iconst (v := nI 1) (by decide) (pc' := 59) 33 rfl rfl ?_
        refine z_bipush (v := nI 9) (by decide) (pc' := 61) 34 rfl rfl ?_
        refine z_callS1 (pc' := 64) 35 rfl rfl k_Wb_72 (c_Wb_within _ _ _) (by decide) (Nat.le_refl _) (Nat.le_refl _) rfl rfl (Nat.le_of_ble_eq_true rfl) ?_
        first | refine z_if_eqB (pc' := 67) 36 rfl rfl (tgt := 91) rfl (fun h64 => ?_) (fun h64 => ?_) | refine z_if_eqN (pc' := 67) 36 rfl rfl (tgt := 91) rfl (by omega) (fun h64 => ?_) (fun h64 => ?_) | refine z_if_eq (pc' := 67) 36 rfl rfl (tgt := 91) rfl (fun h64 => ?_) (fun h64 => ?_)
        · refine z_iconst (v := (-1)) (by decide) (pc' := 92) 51 rfl rfl ?_
          exact z_ireturn 52 rfl rfl (by first | rfl | exact zbo_nar) rfl rfl (by show cK μ _ _ _; rw [f_change, if_pos h8, if_neg (fun z => h15 z.1), if_neg (fun z => h64 z.2)]; exact cK_of hst rfl rfl (hk5))
        · obtain ⟨j, hj0, hj5, rfl⟩ := z_wi h64 (by decide) (by decide)
          refine z_al0 (pc' := 68) 37 rfl rfl ?_
          refine z_getf (pc' := 71) 38 rfl rfl f_Wb_10_11 (by first | exact pcc_5 | exact pcc_6 | exact pcc_7 | exact pcc_8 | exact pcc_9 | exact pcc_10 | exact pcc_11 | exact pcc_12 | exact pcc_13 | exact pcc_14 | exact pcc_15 | exact pcc_22 | (rw [pcc_o (by decide)]; assumption)) (by rfl) ?_
          refine z_getr (pc' := 74) 39 rfl rfl f_Wb_94_3 (by first | exact pcc_5 | exact pcc_6 | exact pcc_7 | exact pcc_8 | exact pcc_9 | exact pcc_10 | exact pcc_11 | exact pcc_12 | exact pcc_13 | exact pcc_14 | exact pcc_15 | exact pcc_22 | (rw [pcc_o (by decide)]; assumption)) (by rfl) ?_
          refine z_il1 (pc' := 75) 40 rfl rfl ?_
          refine z_iald (pc' := 76) 41 rfl rfl (by first | exact pcc_5 | exact pcc_6 | exact pcc_7 | exact pcc_8 | exact pcc_9 | exact pcc_10 | exact pcc_11 | exact pcc_12 | exact pcc_13 | exact pcc_14 | exact pcc_15 | exact pcc_22 | (rw [pcc_o (by decide)]; assumption)) (by omega) (by decide) ?_
          refine z_is4 rfl rfl (pc' := 78) 42 rfl rfl ?_
          refine z_al0 (pc' := 79) 43 rfl rfl ?_
          refine z_getf (pc' := 82) 44 rfl rfl f_Wb_10_11 (by first | exact pcc_5 | exact pcc_6 | exact pcc_7 | exact pcc_8 | exact pcc_9 | exact pcc_10 | exact pcc_11 | exact pcc_12 | exact pcc_13 | exact pcc_14 | exact pcc_15 | exact pcc_22 | (rw [pcc_o (by decide)]; assumption)) (by rfl) ?_
          refine z_getr (pc' := 85) 45 rfl rfl f_Wb_94_3 (by first | exact pcc_5 | exact pcc_6 | exact pcc_7 | exact pcc_8 | exact pcc_9 | exact pcc_10 | exact pcc_11 | exact pcc_12 | exact pcc_13 | exact pcc_14 | exact pcc_15 | exact pcc_22 | (rw [pcc_o (by decide)]; assumption)) (by rfl) ?_
          refine z_il1 (pc' := 86) 46 rfl rfl ?_
          refine z_il3 (pc' := 87) 47 rfl rfl ?_
          refine z_iast (pc' := 88) 48 rfl rfl (by first | exact pcc_5 | exact pcc_6 | exact pcc_7 | exact pcc_8 | exact pcc_9 | exact pcc_10 | exact pcc_11 | exact pcc_12 | exact pcc_13 | exact pcc_14 | exact pcc_15 | exact pcc_22 | (rw [pcc_o (by decide)]; assumption)) (by omega) (by decide) ?_
          rw [upd_n, pcc_s8]
          refine z_il4 (pc' := 90) 49 rfl rfl ?_
          exact z_ireturn 50 rfl rfl (by first | rfl | exact zbo_nar) rfl rfl (by show cK μ _ _ _; rw [f_change, if_pos h8, if_neg (fun z => h15 z.1), if_pos ⟨h54, h64⟩, tN_n (by omega), tN_n (by omega)]; exact cK_of hst rfl rfl (⟨iS_3 hi (by omega), hx, hmo, hrc⟩))
    · refine z_il3 (pc' := 19) 10 rfl rfl ?_
      refine z_iconst (v := nI 0) (by decide) (pc' := 20) 11 rfl rfl ?_
      refine z_bipush (v := nI 7) (by decide) (pc' := 22) 12 rfl rfl ?_
      refine z_callS1 (pc' := 25) 13 rfl rfl k_Wb_72 (c_Wb_within _ _ _) (by decide) (Nat.le_refl _) (Nat.le_refl _) rfl rfl (Nat.le_of_ble_eq_true rfl) ?_
      first | refine z_if_eqB (pc' := 28) 14 rfl rfl (tgt := 52) rfl (fun h25 => ?_) (fun h25 => ?_) | refine z_if_eqN (pc' := 28) 14 rfl rfl (tgt := 52) rfl (by omega) (fun h25 => ?_) (fun h25 => ?_) | refine z_if_eq (pc' := 28) 14 rfl rfl (tgt := 52) rfl (fun h25 => ?_) (fun h25 => ?_)
      · refine z_il2 (pc' := 53) 29 rfl rfl ?_
        refine z_iconst (v := nI 2) (by decide) (pc' := 54) 30 rfl rfl ?_
        first | refine z_icmp_neN (pc' := 57) 31 rfl rfl (tgt := 91) rfl (by omega) (by omega) (fun h54 => ?_) (fun h54 => ?_) | refine z_icmp_ne (pc' := 57) 31 rfl rfl (tgt := 91) rfl (fun h54 => ?_) (fun h54 => ?_)
        · refine z_iconst (v := (-1)) (by decide) (pc' := 92) 51 rfl rfl ?_
          exact z_ireturn 52 rfl rfl (by first | rfl | exact zbo_nar) rfl rfl (by show cK μ _ _ _; rw [f_change, if_pos h8, if_neg (fun z => h25 z.2), if_neg (fun z => h54 z.1)]; exact cK_of hst rfl rfl (hk5))
        · refine z_il3 (pc' := 58) 32 rfl rfl ?_
          refine z_iconst (v := nI 1) (by decide) (pc' := 59) 33 rfl rfl ?_
          refine z_bipush (v := nI 9) (by decide) (pc' := 61) 34 rfl rfl ?_
          refine z_callS1 (pc' := 64) 35 rfl rfl k_Wb_72 (c_Wb_within _ _ _) (by decide) (Nat.le_refl _) (Nat.le_refl _) rfl rfl (Nat.le_of_ble_eq_true rfl) ?_
          first | refine z_if_eqB (pc' := 67) 36 rfl rfl (tgt := 91) rfl (fun h64 => ?_) (fun h64 => ?_) | refine z_if_eqN (pc' := 67) 36 rfl rfl (tgt := 91) rfl (by omega) (fun h64 => ?_) (fun h64 => ?_) | refine z_if_eq (pc' := 67) 36 rfl rfl (tgt := 91) rfl (fun h64 => ?_) (fun h64 => ?_)
          · refine z_iconst (v := (-1)) (by decide) (pc' := 92) 51 rfl rfl ?_
            exact z_ireturn 52 rfl rfl (by first | rfl | exact zbo_nar) rfl rfl (by show cK μ _ _ _; rw [f_change, if_pos h8, if_neg (fun z => h25 z.2), if_neg (fun z => h64 z.2)]; exact cK_of hst rfl rfl (hk5))
          · obtain ⟨j, hj0, hj5, rfl⟩ := z_wi h64 (by decide) (by decide)
            refine z_al0 (pc' := 68) 37 rfl rfl ?_
            refine z_getf (pc' := 71) 38 rfl rfl f_Wb_10_11 (by first | exact pcc_5 | exact pcc_6 | exact pcc_7 | exact pcc_8 | exact pcc_9 | exact pcc_10 | exact pcc_11 | exact pcc_12 | exact pcc_13 | exact pcc_14 | exact pcc_15 | exact pcc_22 | (rw [pcc_o (by decide)]; assumption)) (by rfl) ?_
            refine z_getr (pc' := 74) 39 rfl rfl f_Wb_94_3 (by first | exact pcc_5 | exact pcc_6 | exact pcc_7 | exact pcc_8 | exact pcc_9 | exact pcc_10 | exact pcc_11 | exact pcc_12 | exact pcc_13 | exact pcc_14 | exact pcc_15 | exact pcc_22 | (rw [pcc_o (by decide)]; assumption)) (by rfl) ?_
            refine z_il1 (pc' := 75) 40 rfl rfl ?_
            refine z_iald (pc' := 76) 41 rfl rfl (by first | exact pcc_5 | exact pcc_6 | exact pcc_7 | exact pcc_8 | exact pcc_9 | exact pcc_10 | exact pcc_11 | exact pcc_12 | exact pcc_13 | exact pcc_14 | exact pcc_15 | exact pcc_22 | (rw [pcc_o (by decide)]; assumption)) (by omega) (by decide) ?_
            refine z_is4 rfl rfl (pc' := 78) 42 rfl rfl ?_
            refine z_al0 (pc' := 79) 43 rfl rfl ?_
            refine z_getf (pc' := 82) 44 rfl rfl f_Wb_10_11 (by first | exact pcc_5 | exact pcc_6 | exact pcc_7 | exact pcc_8 | exact pcc_9 | exact pcc_10 | exact pcc_11 | exact pcc_12 | exact pcc_13 | exact pcc_14 | exact pcc_15 | exact pcc_22 | (rw [pcc_o (by decide)]; assumption)) (by rfl) ?_
            refine z_getr (pc' := 85) 45 rfl rfl f_Wb_94_3 (by first | exact pcc_5 | exact pcc_6 | exact pcc_7 | exact pcc_8 | exact pcc_9 | exact pcc_10 | exact pcc_11 | exact pcc_12 | exact pcc_13 | exact pcc_14 | exact pcc_15 | exact pcc_22 | (rw [pcc_o (by decide)]; assumption)) (by rfl) ?_
            refine z_il1 (pc' := 86) 46 rfl rfl ?_
            refine z_il3 (pc' := 87) 47 rfl rfl ?_
            refine z_iast (pc' := 88) 48 rfl rfl (by first | exact pcc_5 | exact pcc_6 | exact pcc_7 | exact pcc_8 | exact pcc_9 | exact pcc_10 | exact pcc_11 | exact pcc_12 | exact pcc_13 | exact pcc_14 | exact pcc_15 | exact pcc_22 | (rw [pcc_o (by decide)]; assumption)) (by omega) (by decide) ?_
            rw [upd_n, pcc_s8]
            refine z_il4 (pc' := 90) 49 rfl rfl ?_
            exact z_ireturn 50 rfl rfl (by first | rfl | exact zbo_nar) rfl rfl (by show cK μ _ _ _; rw [f_change, if_pos h8, if_neg (fun z => h25 z.2), if_pos ⟨h54, h64⟩, tN_n (by omega), tN_n (by omega)]; exact cK_of hst rfl rfl (⟨iS_3 hi (by omega), hx, hmo, hrc⟩))
      · obtain ⟨j, hj0, hj5, rfl⟩ := z_wi h25 (by decide) (by decide)
        refine z_al0 (pc' := 29) 15 rfl rfl ?_
        refine z_getf (pc' := 32) 16 rfl rfl f_Wb_10_11 (by first | exact pcc_5 | exact pcc_6 | exact pcc_7 | exact pcc_8 | exact pcc_9 | exact pcc_10 | exact pcc_11 | exact pcc_12 | exact pcc_13 | exact pcc_14 | exact pcc_15 | exact pcc_22 | (rw [pcc_o (by decide)]; assumption)) (by rfl) ?_
        refine z_getr (pc' := 35) 17 rfl rfl f_Wb_91_3 (by first | exact pcc_5 | exact pcc_6 | exact pcc_7 | exact pcc_8 | exact pcc_9 | exact pcc_10 | exact pcc_11 | exact pcc_12 | exact pcc_13 | exact pcc_14 | exact pcc_15 | exact pcc_22 | (rw [pcc_o (by decide)]; assumption)) (by rfl) ?_
        refine z_il1 (pc' := 36) 18 rfl rfl ?_
        refine z_iald (pc' := 37) 19 rfl rfl (by first | exact pcc_5 | exact pcc_6 | exact pcc_7 | exact pcc_8 | exact pcc_9 | exact pcc_10 | exact pcc_11 | exact pcc_12 | exact pcc_13 | exact pcc_14 | exact pcc_15 | exact pcc_22 | (rw [pcc_o (by decide)]; assumption)) (by omega) (by decide) ?_
        refine z_is4 rfl rfl (pc' := 39) 20 rfl rfl ?_
        refine z_al0 (pc' := 40) 21 rfl rfl ?_
        refine z_getf (pc' := 43) 22 rfl rfl f_Wb_10_11 (by first | exact pcc_5 | exact pcc_6 | exact pcc_7 | exact pcc_8 | exact pcc_9 | exact pcc_10 | exact pcc_11 | exact pcc_12 | exact pcc_13 | exact pcc_14 | exact pcc_15 | exact pcc_22 | (rw [pcc_o (by decide)]; assumption)) (by rfl) ?_
        refine z_getr (pc' := 46) 23 rfl rfl f_Wb_91_3 (by first | exact pcc_5 | exact pcc_6 | exact pcc_7 | exact pcc_8 | exact pcc_9 | exact pcc_10 | exact pcc_11 | exact pcc_12 | exact pcc_13 | exact pcc_14 | exact pcc_15 | exact pcc_22 | (rw [pcc_o (by decide)]; assumption)) (by rfl) ?_
        refine z_il1 (pc' := 47) 24 rfl rfl ?_
        refine z_il3 (pc' := 48) 25 rfl rfl ?_
        refine z_iast (pc' := 49) 26 rfl rfl (by first | exact pcc_5 | exact pcc_6 | exact pcc_7 | exact pcc_8 | exact pcc_9 | exact pcc_10 | exact pcc_11 | exact pcc_12 | exact pcc_13 | exact pcc_14 | exact pcc_15 | exact pcc_22 | (rw [pcc_o (by decide)]; assumption)) (by omega) (by decide) ?_
        rw [upd_n, pcc_s7]
        refine z_il4 (pc' := 51) 27 rfl rfl ?_
        exact z_ireturn 28 rfl rfl (by first | rfl | exact zbo_nar) rfl rfl (by show cK μ _ _ _; rw [f_change, if_pos h8, if_pos ⟨h15, h25⟩, tN_n (by omega), tN_n (by omega)]; exact cK_of hst rfl rfl (⟨iS_2 hi (by omega), hx, hmo, hrc⟩))
  · refine z_iconst (v := (-1)) (by decide) (pc' := 12) 5 rfl rfl ?_
    exact z_ireturn 6 rfl rfl (by first | rfl | exact zbo_nar) rfl rfl (by show cK μ _ _ _; rw [f_change, if_neg h8]; exact cK_of hst rfl rfl (hk5))
set_option maxHeartbeats 4000000 in
set_option maxRecDepth 100000 in
theorem c_Mo_change {G : zG} {n u : Nat} {μ : Nat → va_E} {κ : zκ} {s : Nat → Int32} (h : mst μ s κ) (x y v : Int32) :
    zMet G 2 M_Mo_change [.ref 88, .int x, .int y, .int v] n u μ n u (mK μ s (f_change κ x y v)) := by
  obtain ⟨S, mo, pr, fa, sc, ch, rc, D⟩ := κ
  have hst := h
  obtain ⟨⟨ρ, h1, hD⟩, h2, ⟨q93, h93⟩, ⟨q91, h91⟩, ⟨q94, h94⟩, ⟨q95, h95⟩, ⟨q96, h96⟩, ⟨q97, h97⟩, h5⟩ := h
  have hk5 := h5
  obtain ⟨hi, hx, hmo, hrc⟩ := h5
  have hi0 := hi.1
  have hi1 := hi.2.1
  have hi2 := hi.2.2.1
  have hi3 := hi.2.2.2.2.1
  have hm16 : mo ≤ 16 := by omega
  refine z_start (lv := [.ref 88, .int x, .int y, .int v, .retAddr 0]) K_Mo_change rfl rfl (Nat.le_refl _) (Nat.le_refl _) (Nat.le_of_ble_eq_true rfl) rfl ?_
  refine z_mu (show μ = pm (zu (zu μ 91 (.inl (0, 618, .inl q91))) 93 (.inl (1, 100, .inl q93))) s (mk S mo pr fa sc ch rc ρ) by rw [zu_id h91, zu_id h93, pm_id h2 h1]) ?_
  refine z_al0 (pc' := 1) 0 rfl rfl ?_
  refine z_il1 (pc' := 2) 1 rfl rfl ?_
  refine z_callV1 (pc' := 5) 2 rfl rfl k_Mo_92 (by first | exact pm_f | exact pm_1 | (rw [pm_o (by decide)]; first | exact zu_s | (rw [zu_n (by decide)]; first | exact zu_s | (rw [zu_n (by decide)]; assumption)))) (c_Mo_isGirl hi _) (by decide) (Nat.le_refl _) (Nat.le_refl _) rfl rfl (Nat.le_of_ble_eq_true rfl) ?_
  first | refine z_if_eqB (pc' := 8) 3 rfl rfl (tgt := 43) rfl (fun h5 => ?_) (fun h5 => ?_) | refine z_if_eqN (pc' := 8) 3 rfl rfl (tgt := 43) rfl (by omega) (fun h5 => ?_) (fun h5 => ?_) | refine z_if_eq (pc' := 8) 3 rfl rfl (tgt := 43) rfl (fun h5 => ?_) (fun h5 => ?_)
  · refine z_iconst (v := nI 0) (by decide) (pc' := 44) 23 rfl rfl ?_
    refine z_is4 rfl rfl (pc' := 46) 24 rfl rfl ?_
    refine z_il4 (pc' := 48) 25 rfl rfl ?_
    refine z_if_eq_t 26 rfl (tgt := 67) rfl (by decide) ?_
    refine z_iconst (v := (-1)) (by decide) (pc' := 68) 38 rfl rfl ?_
    exact z_ireturn 39 rfl rfl (by first | rfl | exact zbo_nar) rfl rfl (by show mK μ s _ _ _; rw [f_change, if_neg h5]; exact mK_of3 hst (sEq_r) hD (hk5))
  · refine z_il2 (pc' := 9) 4 rfl rfl ?_
    refine z_iconst (v := nI 1) (by decide) (pc' := 10) 5 rfl rfl ?_
    refine z_iconst (v := nI 2) (by decide) (pc' := 11) 6 rfl rfl ?_
    refine z_callS1 (pc' := 14) 7 rfl rfl k_Mo_67 (c_Mo_in _ _ _) (by decide) (Nat.le_refl _) (Nat.le_refl _) rfl rfl (Nat.le_of_ble_eq_true rfl) ?_
    first | refine z_if_eqB (pc' := 17) 8 rfl rfl (tgt := 43) rfl (fun h14 => ?_) (fun h14 => ?_) | refine z_if_eqN (pc' := 17) 8 rfl rfl (tgt := 43) rfl (by omega) (fun h14 => ?_) (fun h14 => ?_) | refine z_if_eq (pc' := 17) 8 rfl rfl (tgt := 43) rfl (fun h14 => ?_) (fun h14 => ?_)
    · refine z_iconst (v := nI 0) (by decide) (pc' := 44) 23 rfl rfl ?_
      refine z_is4 rfl rfl (pc' := 46) 24 rfl rfl ?_
      refine z_il4 (pc' := 48) 25 rfl rfl ?_
      refine z_if_eq_t 26 rfl (tgt := 67) rfl (by decide) ?_
      refine z_iconst (v := (-1)) (by decide) (pc' := 68) 38 rfl rfl ?_
      exact z_ireturn 39 rfl rfl (by first | rfl | exact zbo_nar) rfl rfl (by show mK μ s _ _ _; rw [f_change, if_pos h5, if_neg (fun z => h14 (by rw [z.1]; decide)), if_neg (fun z => h14 (by rw [z.1]; decide))]; exact mK_of3 hst (sEq_r) hD (hk5))
    · obtain ⟨j, hj0, hj5, rfl⟩ := z_wi h14 (by decide) (by decide)
      obtain ⟨g, hg, rfl⟩ := z_in h5 (by omega)
      refine z_il3 (pc' := 18) 9 rfl rfl ?_
      refine z_il2 (pc' := 19) 10 rfl rfl ?_
      refine z_iconst (v := nI 1) (by decide) (pc' := 20) 11 rfl rfl ?_
      first | refine z_isubN (by omega) (pc' := 21) 12 rfl rfl ?_ | refine z_isub (pc' := 21) 12 rfl rfl ?_
      refine z_il2 (pc' := 22) 13 rfl rfl ?_
      refine z_iconst (v := nI 1) (by decide) (pc' := 23) 14 rfl rfl ?_
      first | refine z_icmp_neN (pc' := 26) 15 rfl rfl (tgt := 31) rfl (by omega) (by omega) (fun h23 => ?_) (fun h23 => ?_) | refine z_icmp_ne (pc' := 26) 15 rfl rfl (tgt := 31) rfl (fun h23 => ?_) (fun h23 => ?_)
      · obtain rfl : j = 2 := by omega
        refine z_bipush (v := nI 9) (by decide) (pc' := 33) 18 rfl rfl ?_
        refine z_callS1 (pc' := 36) 19 rfl rfl k_Mo_67 (c_Mo_in _ _ _) (by decide) (Nat.le_refl _) (Nat.le_refl _) rfl rfl (Nat.le_of_ble_eq_true rfl) ?_
        first | refine z_if_eqB (pc' := 39) 20 rfl rfl (tgt := 43) rfl (fun h36 => ?_) (fun h36 => ?_) | refine z_if_eqN (pc' := 39) 20 rfl rfl (tgt := 43) rfl (by omega) (fun h36 => ?_) (fun h36 => ?_) | refine z_if_eq (pc' := 39) 20 rfl rfl (tgt := 43) rfl (fun h36 => ?_) (fun h36 => ?_)
        · refine z_iconst (v := nI 0) (by decide) (pc' := 44) 23 rfl rfl ?_
          refine z_is4 rfl rfl (pc' := 46) 24 rfl rfl ?_
          refine z_il4 (pc' := 48) 25 rfl rfl ?_
          refine z_if_eq_t 26 rfl (tgt := 67) rfl (by decide) ?_
          refine z_iconst (v := (-1)) (by decide) (pc' := 68) 38 rfl rfl ?_
          exact z_ireturn 39 rfl rfl (by first | rfl | exact zbo_nar) rfl rfl (by show mK μ s _ _ _; rw [f_change, if_pos h5, if_neg (fun z => absurd z.1 (by decide)), if_neg (fun z => h36 z.2)]; exact mK_of3 hst (sEq_r) hD (hk5))
        · obtain ⟨j2, hj20, hj25, rfl⟩ := z_wi h36 (by decide) (by decide)
          refine z_iconst (v := nI 1) (by decide) (pc' := 40) 21 rfl rfl ?_
          refine z_goto 22 rfl (tgt := 44) rfl ?_
          refine z_is4 rfl rfl (pc' := 46) 24 rfl rfl ?_
          refine z_il4 (pc' := 48) 25 rfl rfl ?_
          refine z_if_eq_f (pc' := 51) 26 rfl rfl (tgt := 67) rfl (by decide) ?_
          refine z_al0 (pc' := 52) 27 rfl rfl ?_
          refine z_bipush (v := nI 32) (by decide) (pc' := 54) 28 rfl rfl ?_
          refine z_iconst (v := nI 5) (by decide) (pc' := 55) 29 rfl rfl ?_
          refine z_il1 (pc' := 56) 30 rfl rfl ?_
          first | refine z_imulN (pc' := 57) 31 rfl rfl ?_ | refine z_imul (pc' := 57) 31 rfl rfl ?_
          first | refine z_iaddN (pc' := 58) 32 rfl rfl ?_ | refine z_iadd (pc' := 58) 32 rfl rfl ?_
          refine z_il2 (pc' := 59) 33 rfl rfl ?_
          first | refine z_iaddN (pc' := 60) 34 rfl rfl ?_ | refine z_iadd (pc' := 60) 34 rfl rfl ?_
          refine z_il3 (pc' := 61) 35 rfl rfl ?_
          refine z_callV1 (pc' := 64) 36 rfl rfl k_Mo_103 (by first | exact pm_f | exact pm_1 | (rw [pm_o (by decide)]; first | exact zu_s | (rw [zu_n (by decide)]; first | exact zu_s | (rw [zu_n (by decide)]; assumption)))) (c_Mo_becomes (by omega)) (by decide) (Nat.le_refl _) (Nat.le_refl _) rfl rfl (Nat.le_of_ble_eq_true rfl) ?_
          rw [mk_g2 (by omega), mk_u_dw (by omega)]
          refine z_goto 37 rfl (tgt := 68) rfl ?_
          exact z_ireturn 39 rfl rfl (by first | rfl | exact zbo_nar) rfl rfl (by show mK μ s _ _ _; rw [f_change, if_pos h5, if_neg (fun z => absurd z.1 (by decide)), if_pos ⟨rfl, h36⟩, tN_n (by omega), tN_n (by omega)]; exact mK_of3 hst (sEq_r) hD (⟨iS_3 hi (by omega), hx, hmo, hrc⟩))
      · subst h23
        refine z_bipush (v := nI 7) (by decide) (pc' := 28) 16 rfl rfl ?_
        refine z_goto 17 rfl (tgt := 33) rfl ?_
        refine z_callS1 (pc' := 36) 19 rfl rfl k_Mo_67 (c_Mo_in _ _ _) (by decide) (Nat.le_refl _) (Nat.le_refl _) rfl rfl (Nat.le_of_ble_eq_true rfl) ?_
        first | refine z_if_eqB (pc' := 39) 20 rfl rfl (tgt := 43) rfl (fun h36 => ?_) (fun h36 => ?_) | refine z_if_eqN (pc' := 39) 20 rfl rfl (tgt := 43) rfl (by omega) (fun h36 => ?_) (fun h36 => ?_) | refine z_if_eq (pc' := 39) 20 rfl rfl (tgt := 43) rfl (fun h36 => ?_) (fun h36 => ?_)
        · refine z_iconst (v := nI 0) (by decide) (pc' := 44) 23 rfl rfl ?_
          refine z_is4 rfl rfl (pc' := 46) 24 rfl rfl ?_
          refine z_il4 (pc' := 48) 25 rfl rfl ?_
          refine z_if_eq_t 26 rfl (tgt := 67) rfl (by decide) ?_
          refine z_iconst (v := (-1)) (by decide) (pc' := 68) 38 rfl rfl ?_
          exact z_ireturn 39 rfl rfl (by first | rfl | exact zbo_nar) rfl rfl (by show mK μ s _ _ _; rw [f_change, if_pos h5, if_neg (fun z => h36 z.2), if_neg (fun z => absurd z.1 (by decide))]; exact mK_of3 hst (sEq_r) hD (hk5))
        · obtain ⟨j2, hj20, hj25, rfl⟩ := z_wi h36 (by decide) (by decide)
          refine z_iconst (v := nI 1) (by decide) (pc' := 40) 21 rfl rfl ?_
          refine z_goto 22 rfl (tgt := 44) rfl ?_
          refine z_is4 rfl rfl (pc' := 46) 24 rfl rfl ?_
          refine z_il4 (pc' := 48) 25 rfl rfl ?_
          refine z_if_eq_f (pc' := 51) 26 rfl rfl (tgt := 67) rfl (by decide) ?_
          refine z_al0 (pc' := 52) 27 rfl rfl ?_
          refine z_bipush (v := nI 32) (by decide) (pc' := 54) 28 rfl rfl ?_
          refine z_iconst (v := nI 5) (by decide) (pc' := 55) 29 rfl rfl ?_
          refine z_il1 (pc' := 56) 30 rfl rfl ?_
          first | refine z_imulN (pc' := 57) 31 rfl rfl ?_ | refine z_imul (pc' := 57) 31 rfl rfl ?_
          first | refine z_iaddN (pc' := 58) 32 rfl rfl ?_ | refine z_iadd (pc' := 58) 32 rfl rfl ?_
          refine z_il2 (pc' := 59) 33 rfl rfl ?_
          first | refine z_iaddN (pc' := 60) 34 rfl rfl ?_ | refine z_iadd (pc' := 60) 34 rfl rfl ?_
          refine z_il3 (pc' := 61) 35 rfl rfl ?_
          refine z_callV1 (pc' := 64) 36 rfl rfl k_Mo_103 (by first | exact pm_f | exact pm_1 | (rw [pm_o (by decide)]; first | exact zu_s | (rw [zu_n (by decide)]; first | exact zu_s | (rw [zu_n (by decide)]; assumption)))) (c_Mo_becomes (by omega)) (by decide) (Nat.le_refl _) (Nat.le_refl _) rfl rfl (Nat.le_of_ble_eq_true rfl) ?_
          rw [mk_g1 (by omega), mk_u_hs (by omega)]
          refine z_goto 37 rfl (tgt := 68) rfl ?_
          exact z_ireturn 39 rfl rfl (by first | rfl | exact zbo_nar) rfl rfl (by show mK μ s _ _ _; rw [f_change, if_pos h5, if_pos ⟨rfl, h36⟩, tN_n (by omega), tN_n (by omega)]; exact mK_of3 hst (sEq_r) hD (⟨iS_2 hi (by omega), hx, hmo, hrc⟩))
set_option maxHeartbeats 4000000 in
set_option maxRecDepth 100000 in
theorem c_Wb_remake {G : zG} {n u : Nat} {μ : Nat → va_E} {κ : zκ} {kp : Int32} {ac : Value} (h : cst μ κ) (hob : isOb μ kp ac) (x y : Int32) :
    zMet G 1 M_Wb_remake [.ref 4, .int x, .int y] n u μ n u (cK μ (f_remake κ x y)) := by
  obtain ⟨S, mo, pr, fa, sc, ch, rc, D⟩ := κ
  have hst := h
  obtain ⟨h1, ⟨cs, q, h2⟩, ⟨β, its, h3, h3a, h3b⟩, ⟨c23, h4⟩, h5⟩ := h
  have hk5 := h5
  obtain ⟨hi, hx, hmo, hrc⟩ := h5
  have hi0 := hi.1
  have hi1 := hi.2.1
  have hi2 := hi.2.2.1
  have hi3 := hi.2.2.2.2.1
  refine z_start (lv := [.ref 4, .int x, .int y, .retAddr 0]) K_Wb_remake rfl rfl (Nat.le_refl _) (Nat.le_refl _) (Nat.le_of_ble_eq_true rfl) rfl ?_
  unfold isOb at hob
  refine z_mu (pcc_id h1 h2).symm ?_
  refine z_al0 (pc' := 1) 0 rfl rfl ?_
  refine z_getf (pc' := 4) 1 rfl rfl f_Wb_10_11 (by first | exact pcc_5 | exact pcc_6 | exact pcc_7 | exact pcc_8 | exact pcc_9 | exact pcc_10 | exact pcc_11 | exact pcc_12 | exact pcc_13 | exact pcc_14 | exact pcc_15 | exact pcc_22 | (rw [pcc_o (by decide)]; assumption)) (by rfl) ?_
  refine z_il1 (pc' := 5) 2 rfl rfl ?_
  refine z_callV1 (pc' := 8) 3 rfl rfl k_Wb_84 (by first | exact pcc_5 | exact pcc_6 | exact pcc_7 | exact pcc_8 | exact pcc_9 | exact pcc_10 | exact pcc_11 | exact pcc_12 | exact pcc_13 | exact pcc_14 | exact pcc_15 | exact pcc_22 | (rw [pcc_o (by decide)]; assumption)) (c_Co_hasGirl isCo_pcc hi _) (by decide) (Nat.le_refl _) (Nat.le_refl _) rfl rfl (Nat.le_of_ble_eq_true rfl) ?_
  first | refine z_if_eqB (pc' := 11) 4 rfl rfl (tgt := 20) rfl (fun h8 => ?_) (fun h8 => ?_) | refine z_if_eqN (pc' := 11) 4 rfl rfl (tgt := 20) rfl (by omega) (fun h8 => ?_) (fun h8 => ?_) | refine z_if_eq (pc' := 11) 4 rfl rfl (tgt := 20) rfl (fun h8 => ?_) (fun h8 => ?_)
  · refine z_iconst (v := (-1)) (by decide) (pc' := 21) 10 rfl rfl ?_
    exact z_ireturn 11 rfl rfl (by first | rfl | exact zbo_nar) rfl rfl (by show cK μ _ _ _; rw [f_remake, if_neg h8]; exact cK_of hst rfl rfl (hk5))
  · refine z_il2 (pc' := 12) 5 rfl rfl ?_
    refine z_iconst (v := nI 1) (by decide) (pc' := 13) 6 rfl rfl ?_
    refine z_iconst (v := nI 5) (by decide) (pc' := 14) 7 rfl rfl ?_
    refine z_callS1 (pc' := 17) 8 rfl rfl k_Wb_72 (c_Wb_within _ _ _) (by decide) (Nat.le_refl _) (Nat.le_refl _) rfl rfl (Nat.le_of_ble_eq_true rfl) ?_
    first | refine z_if_neB (pc' := 20) 9 rfl rfl (tgt := 22) rfl (fun h17 => ?_) (fun h17 => ?_) | refine z_if_neN (pc' := 20) 9 rfl rfl (tgt := 22) rfl (by omega) (fun h17 => ?_) (fun h17 => ?_) | refine z_if_ne (pc' := 20) 9 rfl rfl (tgt := 22) rfl (fun h17 => ?_) (fun h17 => ?_)
    · obtain ⟨g, hg, rfl⟩ := z_in h8 (by omega)
      obtain ⟨j, hj0, hj5, rfl⟩ := z_wi h17 (by decide) (by decide)
      refine z_al0 (pc' := 23) 12 rfl rfl ?_
      refine z_getf (pc' := 26) 13 rfl rfl f_Wb_10_11 (by first | exact pcc_5 | exact pcc_6 | exact pcc_7 | exact pcc_8 | exact pcc_9 | exact pcc_10 | exact pcc_11 | exact pcc_12 | exact pcc_13 | exact pcc_14 | exact pcc_15 | exact pcc_22 | (rw [pcc_o (by decide)]; assumption)) (by rfl) ?_
      refine z_getr (pc' := 29) 14 rfl rfl f_Wb_88_3 (by first | exact pcc_5 | exact pcc_6 | exact pcc_7 | exact pcc_8 | exact pcc_9 | exact pcc_10 | exact pcc_11 | exact pcc_12 | exact pcc_13 | exact pcc_14 | exact pcc_15 | exact pcc_22 | (rw [pcc_o (by decide)]; assumption)) (by rfl) ?_
      refine z_il1 (pc' := 30) 15 rfl rfl ?_
      refine z_iald (pc' := 31) 16 rfl rfl (by first | exact pcc_5 | exact pcc_6 | exact pcc_7 | exact pcc_8 | exact pcc_9 | exact pcc_10 | exact pcc_11 | exact pcc_12 | exact pcc_13 | exact pcc_14 | exact pcc_15 | exact pcc_22 | (rw [pcc_o (by decide)]; assumption)) (by omega) (by decide) ?_
      refine z_is3 rfl rfl (pc' := 32) 17 rfl rfl ?_
      refine z_al0 (pc' := 33) 18 rfl rfl ?_
      refine z_getf (pc' := 36) 19 rfl rfl f_Wb_10_11 (by first | exact pcc_5 | exact pcc_6 | exact pcc_7 | exact pcc_8 | exact pcc_9 | exact pcc_10 | exact pcc_11 | exact pcc_12 | exact pcc_13 | exact pcc_14 | exact pcc_15 | exact pcc_22 | (rw [pcc_o (by decide)]; assumption)) (by rfl) ?_
      refine z_getr (pc' := 39) 20 rfl rfl f_Wb_88_3 (by first | exact pcc_5 | exact pcc_6 | exact pcc_7 | exact pcc_8 | exact pcc_9 | exact pcc_10 | exact pcc_11 | exact pcc_12 | exact pcc_13 | exact pcc_14 | exact pcc_15 | exact pcc_22 | (rw [pcc_o (by decide)]; assumption)) (by rfl) ?_
      refine z_il1 (pc' := 40) 21 rfl rfl ?_
      refine z_il2 (pc' := 41) 22 rfl rfl ?_
      refine z_iast (pc' := 42) 23 rfl rfl (by first | exact pcc_5 | exact pcc_6 | exact pcc_7 | exact pcc_8 | exact pcc_9 | exact pcc_10 | exact pcc_11 | exact pcc_12 | exact pcc_13 | exact pcc_14 | exact pcc_15 | exact pcc_22 | (rw [pcc_o (by decide)]; assumption)) (by omega) (by decide) ?_
      rw [upd_n, pcc_s6]
      refine z_il3 (pc' := 43) 24 rfl rfl ?_
      exact z_ireturn 25 rfl rfl (by first | rfl | exact zbo_nar) rfl rfl (by show cK μ _ _ _; rw [f_remake, if_pos h8, if_pos h17, tN_n (by omega), tN_n (by omega)]; exact cK_of hst rfl rfl (⟨iS_1 hi (by omega), hx, hmo, hrc⟩))
    · refine z_iconst (v := (-1)) (by decide) (pc' := 21) 10 rfl rfl ?_
      exact z_ireturn 11 rfl rfl (by first | rfl | exact zbo_nar) rfl rfl (by show cK μ _ _ _; rw [f_remake, if_pos h8, if_neg h17]; exact cK_of hst rfl rfl (hk5))
set_option maxHeartbeats 4000000 in
set_option maxRecDepth 100000 in
theorem c_Mo_remake {G : zG} {n u : Nat} {μ : Nat → va_E} {κ : zκ} {s : Nat → Int32} (h : mst μ s κ) (x y : Int32) :
    zMet G 2 M_Mo_remake [.ref 88, .int x, .int y] n u μ n u (mK μ s (f_remake κ x y)) := by
  obtain ⟨S, mo, pr, fa, sc, ch, rc, D⟩ := κ
  have hst := h
  obtain ⟨⟨ρ, h1, hD⟩, h2, ⟨q93, h93⟩, ⟨q91, h91⟩, ⟨q94, h94⟩, ⟨q95, h95⟩, ⟨q96, h96⟩, ⟨q97, h97⟩, h5⟩ := h
  have hk5 := h5
  obtain ⟨hi, hx, hmo, hrc⟩ := h5
  have hi0 := hi.1
  have hi1 := hi.2.1
  have hi2 := hi.2.2.1
  have hi3 := hi.2.2.2.2.1
  have hm16 : mo ≤ 16 := by omega
  refine z_start (lv := [.ref 88, .int x, .int y]) K_Mo_remake rfl rfl (Nat.le_refl _) (Nat.le_refl _) (Nat.le_of_ble_eq_true rfl) rfl ?_
  refine z_mu (show μ = pm (zu (zu μ 91 (.inl (0, 618, .inl q91))) 93 (.inl (1, 100, .inl q93))) s (mk S mo pr fa sc ch rc ρ) by rw [zu_id h91, zu_id h93, pm_id h2 h1]) ?_
  refine z_al0 (pc' := 1) 0 rfl rfl ?_
  refine z_il1 (pc' := 2) 1 rfl rfl ?_
  refine z_callV1 (pc' := 5) 2 rfl rfl k_Mo_92 (by first | exact pm_f | exact pm_1 | (rw [pm_o (by decide)]; first | exact zu_s | (rw [zu_n (by decide)]; first | exact zu_s | (rw [zu_n (by decide)]; assumption)))) (c_Mo_isGirl hi _) (by decide) (Nat.le_refl _) (Nat.le_refl _) rfl rfl (Nat.le_of_ble_eq_true rfl) ?_
  first | refine z_if_eqB (pc' := 8) 3 rfl rfl (tgt := 31) rfl (fun h5 => ?_) (fun h5 => ?_) | refine z_if_eqN (pc' := 8) 3 rfl rfl (tgt := 31) rfl (by omega) (fun h5 => ?_) (fun h5 => ?_) | refine z_if_eq (pc' := 8) 3 rfl rfl (tgt := 31) rfl (fun h5 => ?_) (fun h5 => ?_)
  · refine z_iconst (v := (-1)) (by decide) (pc' := 32) 18 rfl rfl ?_
    exact z_ireturn 19 rfl rfl (by first | rfl | exact zbo_nar) rfl rfl (by show mK μ s _ _ _; rw [f_remake, if_neg h5]; exact mK_of3 hst (sEq_r) hD (hk5))
  · refine z_il2 (pc' := 9) 4 rfl rfl ?_
    refine z_iconst (v := nI 1) (by decide) (pc' := 10) 5 rfl rfl ?_
    refine z_iconst (v := nI 5) (by decide) (pc' := 11) 6 rfl rfl ?_
    refine z_callS1 (pc' := 14) 7 rfl rfl k_Mo_67 (c_Mo_in _ _ _) (by decide) (Nat.le_refl _) (Nat.le_refl _) rfl rfl (Nat.le_of_ble_eq_true rfl) ?_
    first | refine z_if_eqB (pc' := 17) 8 rfl rfl (tgt := 31) rfl (fun h14 => ?_) (fun h14 => ?_) | refine z_if_eqN (pc' := 17) 8 rfl rfl (tgt := 31) rfl (by omega) (fun h14 => ?_) (fun h14 => ?_) | refine z_if_eq (pc' := 17) 8 rfl rfl (tgt := 31) rfl (fun h14 => ?_) (fun h14 => ?_)
    · refine z_iconst (v := (-1)) (by decide) (pc' := 32) 18 rfl rfl ?_
      exact z_ireturn 19 rfl rfl (by first | rfl | exact zbo_nar) rfl rfl (by show mK μ s _ _ _; rw [f_remake, if_pos h5, if_neg h14]; exact mK_of3 hst (sEq_r) hD (hk5))
    · obtain ⟨g, hg, rfl⟩ := z_in h5 (by omega)
      obtain ⟨j, hj0, hj5, rfl⟩ := z_wi h14 (by decide) (by decide)
      refine z_al0 (pc' := 18) 9 rfl rfl ?_
      refine z_bipush (v := nI 32) (by decide) (pc' := 20) 10 rfl rfl ?_
      refine z_iconst (v := nI 5) (by decide) (pc' := 21) 11 rfl rfl ?_
      refine z_il1 (pc' := 22) 12 rfl rfl ?_
      first | refine z_imulN (pc' := 23) 13 rfl rfl ?_ | refine z_imul (pc' := 23) 13 rfl rfl ?_
      first | refine z_iaddN (pc' := 24) 14 rfl rfl ?_ | refine z_iadd (pc' := 24) 14 rfl rfl ?_
      refine z_il2 (pc' := 25) 15 rfl rfl ?_
      refine z_callV1 (pc' := 28) 16 rfl rfl k_Mo_103 (by first | exact pm_f | exact pm_1 | (rw [pm_o (by decide)]; first | exact zu_s | (rw [zu_n (by decide)]; first | exact zu_s | (rw [zu_n (by decide)]; assumption)))) (c_Mo_becomes (by omega)) (by decide) (Nat.le_refl _) (Nat.le_refl _) rfl rfl (Nat.le_of_ble_eq_true rfl) ?_
      rw [← Nat.add_zero (32 + 5 * g), mk_g0 (by omega), mk_u_kd (by omega)]
      refine z_goto 17 rfl (tgt := 32) rfl ?_
      exact z_ireturn 19 rfl rfl (by first | rfl | exact zbo_nar) rfl rfl (by show mK μ s _ _ _; rw [f_remake, if_pos h5, if_pos h14, tN_n (by omega), tN_n (by omega)]; exact mK_of3 hst (sEq_r) hD (⟨iS_1 hi (by omega), hx, hmo, hrc⟩))
