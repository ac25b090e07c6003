/-! ===== kinds and houses of reports stay as they are ===== -/
theorem iRp_girl {κ : zκ} (h : iRp κ.1) (x y z : Int32) : iRp (f_girl κ x y z).2.1 := by
  obtain ⟨S, mo, pr, fa, sc, ch, rc, D⟩ := κ
  unfold f_girl
  dsimp only
  repeat' split
  all_goals exact h
theorem iRp_girlOf {κ : zκ} (h : iRp κ.1) (x y : Int32) : iRp (f_girlOf κ x y).2.1 := by
  obtain ⟨S, mo, pr, fa, sc, ch, rc, D⟩ := κ
  unfold f_girlOf
  dsimp only
  repeat' split
  all_goals exact h
theorem iRp_change {κ : zκ} (h : iRp κ.1) (x y v : Int32) : iRp (f_change κ x y v).2.1 := by
  obtain ⟨S, mo, pr, fa, sc, ch, rc, D⟩ := κ
  unfold f_change
  dsimp only
  repeat' split
  all_goals exact h
theorem iRp_remake {κ : zκ} (h : iRp κ.1) (x y : Int32) : iRp (f_remake κ x y).2.1 := by
  obtain ⟨S, mo, pr, fa, sc, ch, rc, D⟩ := κ
  unfold f_remake
  dsimp only
  repeat' split
  all_goals exact h
theorem iRp_wind {κ : zκ} (h : iRp κ.1) (x y z v : Int32) : iRp (f_wind κ x y z v).2.1 := by
  obtain ⟨S, mo, pr, fa, sc, ch, rc, D⟩ := κ
  unfold f_wind
  dsimp only
  repeat' split
  all_goals exact h
theorem iRp_windOf {κ : zκ} (h : iRp κ.1) (x y : Int32) : iRp (f_windOf κ x y).2.1 := by
  obtain ⟨S, mo, pr, fa, sc, ch, rc, D⟩ := κ
  unfold f_windOf
  dsimp only
  repeat' split
  all_goals exact h
theorem iRp_promise {κ : zκ} (h : iRp κ.1) (x y : Int32) : iRp (f_promise κ x y).2.1 := by
  obtain ⟨S, mo, pr, fa, sc, ch, rc, D⟩ := κ
  unfold f_promise
  dsimp only
  repeat' split
  all_goals exact h
theorem iRp_gain {κ : zκ} (h : iRp κ.1) (x y z : Int32) : iRp (f_gain κ x y z).2.1 := by
  obtain ⟨S, mo, pr, fa, sc, ch, rc, D⟩ := κ
  unfold f_gain
  dsimp only
  repeat' split
  all_goals exact h
theorem iRp_ends {κ : zκ} (h : iRp κ.1) (x : Int32) : iRp (f_ends κ x).2.1 := by
  obtain ⟨S, mo, pr, fa, sc, ch, rc, D⟩ := κ
  unfold f_ends
  dsimp only
  repeat' split
  all_goals exact h
theorem iRp_anew {κ : zκ} (h : iRp κ.1) : iRp (f_anew κ).2.1 := by
  obtain ⟨S, mo, pr, fa, sc, ch, rc, D⟩ := κ
  unfold f_anew
  dsimp only
  repeat' split
  all_goals exact h
theorem iRp_state {κ : zκ} (h : iRp κ.1) (x : Int32) : iRp (f_state κ x).2.1 := by
  obtain ⟨S, mo, pr, fa, sc, ch, rc, D⟩ := κ
  unfold f_state
  dsimp only
  repeat' split
  all_goals exact h
theorem iRp_on {κ : zκ} (h : iRp κ.1) (x : Int32) : iRp (f_on κ x).2.1 := by
  obtain ⟨S, mo, pr, fa, sc, ch, rc, D⟩ := κ
  unfold f_on
  dsimp only
  repeat' split
  all_goals exact h
theorem iRp_courted {κ : zκ} (h : iRp κ.1) (x : Int32) : iRp (f_courted κ x).2.1 := by
  obtain ⟨S, mo, pr, fa, sc, ch, rc, D⟩ := κ
  unfold f_courted
  dsimp only
  repeat' split
  all_goals exact h
theorem iRp_breaks {κ : zκ} (h : iRp κ.1) (x : Int32) : iRp (f_breaks κ x).2.1 := by
  obtain ⟨S, mo, pr, fa, sc, ch, rc, D⟩ := κ
  unfold f_breaks
  dsimp only
  repeat' split
  all_goals exact h
theorem iRp_windFor {κ : zκ} (h : iRp κ.1) (x : Int32) : iRp (f_windFor κ x).2.1 := by
  obtain ⟨S, mo, pr, fa, sc, ch, rc, D⟩ := κ
  unfold f_windFor
  dsimp only
  repeat' split
  all_goals exact h
theorem iRp_dowryFor {κ : zκ} (h : iRp κ.1) (x : Int32) : iRp (f_dowryFor κ x).2.1 := by
  obtain ⟨S, mo, pr, fa, sc, ch, rc, D⟩ := κ
  unfold f_dowryFor
  dsimp only
  repeat' split
  all_goals exact h
theorem iRp_leave {κ : zκ} (h : iRp κ.1) : iRp (f_leave κ).2.1 := by
  obtain ⟨S, mo, pr, fa, sc, ch, rc, D⟩ := κ
  unfold f_leave
  dsimp only
  repeat' split
  all_goals exact h
theorem iRp_first {κ : zκ} (h : iRp κ.1) : iRp (f_first κ).2.1 := by
  obtain ⟨S, mo, pr, fa, sc, ch, rc, D⟩ := κ
  unfold f_first
  dsimp only
  repeat' split
  all_goals exact h
theorem iRp_kept {κ : zκ} (h : iRp κ.1) (x : Int32) : iRp (f_kept κ x).2.1 := by
  obtain ⟨S, mo, pr, fa, sc, ch, rc, D⟩ := κ
  unfold f_kept
  dsimp only
  repeat' split
  all_goals exact h
theorem iRp_ring {κ : zκ} (h : iRp κ.1) (x : Int32) : iRp (f_ring κ x).2.1 := by
  obtain ⟨S, mo, pr, fa, sc, ch, rc, D⟩ := κ
  unfold f_ring
  dsimp only
  repeat' split
  all_goals exact h
theorem iRp_seed {κ : zκ} (h : iRp κ.1) (x : Int32) : iRp (f_seed κ x).2.1 := by
  obtain ⟨S, mo, pr, fa, sc, ch, rc, D⟩ := κ
  unfold f_seed
  dsimp only
  repeat' split
  all_goals exact h
theorem iRp_often {κ : zκ} (h : iRp κ.1) (x y : Int32) : iRp (f_often κ x y).2.1 := by
  obtain ⟨S, mo, pr, fa, sc, ch, rc, D⟩ := κ
  unfold f_often
  dsimp only
  repeat' split
  all_goals exact h
theorem iRp_pass {κ : zκ} (h : iRp κ.1) (a : Nat) : iRp (f_pass κ a).2.1 := by
  obtain ⟨S, mo, pr, fa, sc, ch, rc, D⟩ := κ
  exact h
theorem iRp_month {κ : zκ} (h : iRp κ.1) : iRp (f_month κ).2.1 := by
  obtain ⟨S, mo, pr, fa, sc, ch, rc, D⟩ := κ
  unfold f_month
  dsimp only
  split
  · exact h
  · exact iRp_pass (κ := (S, mo, pr, fa, sc, ch, rc, D)) h 0
theorem iRp_lot {κ : zκ} (h : iRp κ.1) : iRp (f_lot κ).2.1 := by
  obtain ⟨S, mo, pr, fa, sc, ch, rc, D⟩ := κ
  unfold f_lot
  dsimp only
  split
  · exact h
  · exact iRp_pass (κ := (S, mo, pr, fa, sc, nxC ch, rc, D)) h _
theorem iRp_goAll {κ : zκ} (h : iRp κ.1) (τ : zτ) (x i v : Int32) : iRp (f_goAll τ κ x i v).2.1 := by
  obtain ⟨S, mo, pr, fa, sc, ch, rc, D⟩ := κ
  unfold f_goAll
  dsimp only
  repeat' split
  all_goals exact h
theorem iRp_forget {κ : zκ} (h : iRp κ.1) : iRp (f_forget κ).2.1 := by
  obtain ⟨S, mo, pr, fa, sc, ch, rc, D⟩ := κ
  intro r hr
  exact absurd hr (Nat.not_lt_zero _)
theorem iRp_rules {κ : zκ} (h : iRp κ.1) (b : Nat → Nat) (ln : Nat) (tk : Nat → Nat) : iRp (f_rules κ b ln tk).2.1 := by
  obtain ⟨S, mo, pr, fa, sc, ch, rc, D⟩ := κ
  unfold f_rules
  dsimp only
  split
  · exact h
  · exact h
theorem iRp_report {κ : zκ} (h : iRp κ.1) (x y z v : Int32) : iRp (f_report κ x y z v).2.1 := by
  obtain ⟨S, mo, pr, fa, sc, ch, rc, D⟩ := κ
  have h : iRp S := h
  unfold f_report
  dsimp only
  split
  · rename_i q
    split
    · exact h
    · obtain ⟨k, k1, k5, ex⟩ := z_wi q.1 (by decide) (by decide)
      obtain ⟨t, t1, t7, ey⟩ := z_wi q.2.1 (by decide) (by decide)
      subst ex; subst ey
      intro r hr
      have hr : r < S 0 2 + 1 := hr
      have ek : tN (nI k) = k := tN_n (by omega)
      have et : tN (nI t) = t := tN_n (by omega)
      show rS' S (tN (nI k)) (tN (nI t)) (tN z) (tN v) 8 (4 * r) ≤ 5 ∧ rS' S (tN (nI k)) (tN (nI t)) (tN z) (tN v) 8 (4 * r + 1) ≤ 7
      rw [ek, et]
      show un (un (un (un (S 8) (4 * S 0 2) k) (4 * S 0 2 + 1) t) (4 * S 0 2 + 2) (tN z)) (4 * S 0 2 + 3) (tN v) (4 * r) ≤ 5 ∧ un (un (un (un (S 8) (4 * S 0 2) k) (4 * S 0 2 + 1) t) (4 * S 0 2 + 2) (tN z)) (4 * S 0 2 + 3) (tN v) (4 * r + 1) ≤ 7
      by_cases e : r = S 0 2
      · rw [e]
        refine ⟨?_, ?_⟩
        · rw [un_n (by omega), un_n (by omega), un_n (by omega), un_s]; exact k5
        · rw [un_n (by omega), un_n (by omega), un_s]; exact t7
      · rw [un_n (by omega), un_n (by omega), un_n (by omega), un_n (by omega), un_n (by omega), un_n (by omega), un_n (by omega), un_n (by omega)]
        exact h r (by omega)
  · exact h
