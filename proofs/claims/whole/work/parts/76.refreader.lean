/-! ===== the reference reads tokens ===== -/
def mtk (c : Nat) : Nat := if 100 ≤ c then 20 else if c ≤ 8 then c else if c = 9 then 14 else if c = 10 then 15 else if c = 11 then 16 else if c = 12 then 17 else if c ≤ 17 then c - 4 else if c = 18 then 24 else if c = 19 then 22 else if c = 20 then 23 else if c ≤ 23 then 21 else if c = 24 then 26 else 25
def mvl (c : Nat) : Nat := if 100 ≤ c then c - 100 else c + 39
theorem mtk_b {c : Nat} (h : 100 ≤ c) : mtk c = 20 := if_pos h
theorem mtk_s : ∀ c, c ≤ 25 → mtk c ≤ 26 ∧ mtk c ≠ 20 ∧ (mtk c = 17 ↔ c = 12) ∧ (mtk c = 22 ↔ c = 19) ∧ (mtk c = 16 ↔ c = 11) ∧ (mtk c = 15 ↔ c = 10) ∧ (mtk c = 23 ↔ c = 20) ∧ (mtk c = 24 ↔ c = 18) ∧ (mtk c = 14 ↔ c = 9) ∧ (mtk c = 21 ↔ sgB c = true) ∧ (mtk c ≤ 5 ↔ c ≤ 5) ∧ ((6 ≤ mtk c ∧ mtk c ≤ 8) ↔ (6 ≤ c ∧ c ≤ 8)) ∧ ((9 ≤ mtk c ∧ mtk c ≤ 13) ↔ opB c = true) ∧ (mtk c = 25 ↔ c = 25) ∧ (c ≤ 8 → mtk c = c) ∧ (13 ≤ c → c ≤ 17 → mtk c = c - 4) := by
  intro c h
  rcases (show c = 0 ∨ c = 1 ∨ c = 2 ∨ c = 3 ∨ c = 4 ∨ c = 5 ∨ c = 6 ∨ c = 7 ∨ c = 8 ∨ c = 9 ∨ c = 10 ∨ c = 11 ∨ c = 12 ∨ c = 13 ∨ c = 14 ∨ c = 15 ∨ c = 16 ∨ c = 17 ∨ c = 18 ∨ c = 19 ∨ c = 20 ∨ c = 21 ∨ c = 22 ∨ c = 23 ∨ c = 24 ∨ c = 25 by omega) with e | e | e | e | e | e | e | e | e | e | e | e | e | e | e | e | e | e | e | e | e | e | e | e | e | e <;> subst e <;> refine ⟨by decide, by decide, by decide, by decide, by decide, by decide, by decide, by decide, by decide, by decide, by decide, by decide, by decide, by decide, by decide, by decide⟩
def vc (c : Nat) : Prop := c ≤ 10099 ∧ (c ≤ 25 ∨ 100 ≤ c)
theorem mtk_w {c w k : Nat} (h : vc c) (hk : k ≤ 25) (hw : w ≠ 20) (hs : ∀ c, c ≤ 25 → (mtk c = w ↔ c = k)) : mtk c = w ↔ c = k := by
  rcases h.2 with q | q
  · exact hs c q
  · rw [mtk_b q]
    exact ⟨fun z => absurd z.symm hw, fun z => by omega⟩
theorem mtk_le {c : Nat} (h : vc c) : mtk c ≤ 26 := by
  rcases h.2 with q | q
  · exact (mtk_s c q).1
  · rw [mtk_b q]; decide
theorem mtk_op {c : Nat} (h : vc c) : (mtk c = 20 ∨ (9 ≤ mtk c ∧ mtk c ≤ 13)) ↔ opB c = true := by
  rcases h.2 with q | q
  · have := mtk_s c q
    rw [← this.2.2.2.2.2.2.2.2.2.2.2.2.1]
    exact ⟨fun z => z.elim (fun y => absurd y this.2.1) id, Or.inr⟩
  · rw [mtk_b q]
    exact ⟨fun _ => opB_t.mpr (Or.inr ⟨q, h.1⟩), fun _ => Or.inl rfl⟩
theorem mtk_sg {c : Nat} (h : vc c) : mtk c = 21 ↔ sgB c = true := by
  rcases h.2 with q | q
  · exact (mtk_s c q).2.2.2.2.2.2.2.2.2.1
  · rw [mtk_b q]
    exact ⟨fun z => by omega, fun z => by have := (sgB_t.mp z).2; omega⟩
/-- the token that comes is the j-th -/
def TKs (tc tp te : Nat → Nat) (s : Nat → Int32) (j : Nat) : Prop := s 6 = nI (mtk (tc j)) ∧ ((100 ≤ tc j ∨ sgB (tc j) = true) → s 9 = nI (mvl (tc j))) ∧ s 7 = nI (tp j) ∧ s 8 = nI (te j) ∧ s 5 = nI (te 1000)
def ST (tc tp te : Nat → Nat) (s : Nat → Int32) (j : Nat) (b : Bool) (o la : Nat) : Prop := TKs tc tp te s j ∧ s 10 = bI b ∧ s 11 = nI o ∧ s 12 = nI la
def sEP (s s' : Nat → Int32) : Prop := ∀ i, (i < 6 ∨ 12 < i) → s' i = s i
theorem sEP_t {s s1 s2 : Nat → Int32} (h : sEP s s1) (k : sEP s1 s2) : sEP s s2 := fun i hi => (k i hi).trans (h i hi)
theorem sEP_u {s : Nat → Int32} {k : Nat} {x : Int32} (h1 : 6 ≤ k) (h2 : k ≤ 12) : sEP s (un s k x) := fun i hi => un_n (by omega)
theorem ST_b {tc tp te : Nat → Nat} {s : Nat → Int32} {j o la : Nat} {b b' : Bool} (h : ST tc tp te s j b o la) : ST tc tp te (un s 10 (bI b')) j b' o la := ⟨h.1, rfl, h.2.2.1, h.2.2.2⟩
theorem ST_o {tc tp te : Nat → Nat} {s : Nat → Int32} {j o o' la : Nat} {b : Bool} (h : ST tc tp te s j b o la) : ST tc tp te (un s 11 (nI o')) j b o' la := ⟨h.1, h.2.1, rfl, h.2.2.2⟩
theorem ST_l {tc tp te : Nat → Nat} {s : Nat → Int32} {j o la la' : Nat} {b : Bool} (h : ST tc tp te s j b o la) : ST tc tp te (un s 12 (nI la')) j b o la' := ⟨h.1, h.2.1, h.2.2.1, rfl⟩
theorem mk_u_r9 {S : Nat → Nat → Nat} {mo : Nat} {pr fa : Nat → Nat} {sc ch : Int32} {rc : Nat} {ρ : Nat → Int32} {i : Nat} {x : Int32} (hi : 86 ≤ i) : upd (mk S mo pr fa sc ch rc ρ) i x = mk S mo pr fa sc ch rc (upd ρ i x) := by
  funext k
  by_cases h : k = i
  · subst h; rw [upd_at, mk_s hi, upd_at]
  · rw [upd_no h]
    by_cases h2 : 86 ≤ k
    · rw [mk_s h2, mk_s h2, upd_no h]
    · unfold mk
      rw [upd_no h]
/-- what reads() does -/
def rdS (G : zG) (n u : Nat) (ν : Nat → va_E) (tc tp te : Nat → Nat) (N : Nat) : Prop := ∀ (s m : Nat → Int32) (j : Nat), j < N → TKs tc tp te s j → zMet G 3 M_Mo_reads [.ref 88] n u (pm ν s m) n u (fun r μ' => r = none ∧ ∃ s' : Nat → Int32, μ' = pm ν s' m ∧ TKs tc tp te s' (j + 1) ∧ ∀ i, (i < 6 ∨ 9 < i) → s' i = s i)
theorem ST_n {tc tp te : Nat → Nat} {s s' : Nat → Int32} {j j' o la : Nat} {b : Bool} (h : ST tc tp te s j b o la) (h1 : TKs tc tp te s' j') (h2 : ∀ i, (i < 6 ∨ 9 < i) → s' i = s i) : ST tc tp te s' j' b o la := ⟨h1, by rw [h2 10 (by omega)]; exact h.2.1, by rw [h2 11 (by omega)]; exact h.2.2.1, by rw [h2 12 (by omega)]; exact h.2.2.2⟩
theorem sEP_n {s s' : Nat → Int32} (h2 : ∀ i, (i < 6 ∨ 9 < i) → s' i = s i) : sEP s s' := fun i hi => h2 i (by omega)
set_option maxHeartbeats 4000000 in
set_option maxRecDepth 100000 in
theorem c_Mo_passes {G : zG} {n u : Nat} {ν : Nat → va_E} {tc tp te : Nat → Nat} {N : Nat} (hT : iTk tc N) (hrd : rdS G n u ν tc tp te N) {S : Nat → Nat → Nat} {mo : Nat} {pr fa : Nat → Nat} {sc ch : Int32} {rc : Nat} {s ρ : Nat → Int32} {j o la w : Nat} {b : Bool} (hS : ST tc tp te s j b o la) (hj : j ≤ N) (hw : w ≤ 24) : zMet G 4 M_Mo_passes [.ref 88, .int (nI w)] n u (pm ν s (mk S mo pr fa sc ch rc ρ)) n u (fun r μ' => r = some (.int (zbo (b = false ∧ mtk (tc j) = w))) ∧ ∃ s' : Nat → Int32, μ' = (pm ν s' (mk S mo pr fa sc ch rc ρ)) ∧ ST tc tp te s' (if (b = false ∧ mtk (tc j) = w) then j + 1 else j) b o la ∧ sEP s s') := by
  have hv := mtk_le (hT.2.2 j)
  have hNe : mtk (tc j) = w → j ≠ N := fun e z => by rw [z, hT.2.1, show mtk 25 = 25 from rfl] at e; omega
  refine z_start (lv := [.ref 88, .int (nI w)]) K_Mo_passes rfl rfl (Nat.le_refl _) (Nat.le_refl _) (Nat.le_of_ble_eq_true rfl) rfl ?_
  refine z_al0 (pc' := 1) 0 rfl rfl ?_
  refine z_getf (pc' := 4) 1 rfl rfl f_Mo_162_12 (by first | exact pm_f | exact pm_1 | (rw [pm_o (by decide)]; assumption)) (by rfl) ?_
  rw [hS.2.1]
  first | refine z_if_neB (pc' := 7) 2 rfl rfl (tgt := 15) rfl (fun h4 => ?_) (fun h4 => ?_) | refine z_if_neN (pc' := 7) 2 rfl rfl (tgt := 15) rfl (by omega) (fun h4 => ?_) (fun h4 => ?_) | refine z_if_ne (pc' := 7) 2 rfl rfl (tgt := 15) rfl (fun h4 => ?_) (fun h4 => ?_)
  · refine z_iconst (v := nI 0) (by decide) (pc' := 16) 7 rfl rfl ?_
    exact z_ireturn 8 rfl rfl (by first | rfl | exact zbo_nar) rfl rfl (by have hc : ¬ (b = false ∧ mtk (tc j) = w) := (fun z => by rw [h4] at z; cases z.1); exact ⟨by rw [zbo_f hc], s, rfl, by rw [if_neg hc]; exact hS, fun _ _ => rfl⟩)
  · refine z_al0 (pc' := 8) 3 rfl rfl ?_
    refine z_getf (pc' := 11) 4 rfl rfl f_Mo_152_12 (by first | exact pm_f | exact pm_1 | (rw [pm_o (by decide)]; assumption)) (by rfl) ?_
    rw [hS.1.1]
    refine z_il1 (pc' := 12) 5 rfl rfl ?_
    first | refine z_icmp_eqN (pc' := 15) 6 rfl rfl (tgt := 17) rfl (by omega) (by omega) (fun h12 => ?_) (fun h12 => ?_) | refine z_icmp_eq (pc' := 15) 6 rfl rfl (tgt := 17) rfl (fun h12 => ?_) (fun h12 => ?_)
    · refine z_al0 (pc' := 18) 9 rfl rfl ?_
      refine z_callV (pc' := 21) 10 rfl rfl k_Mo_166 (by first | exact pm_f | exact pm_1 | (rw [pm_o (by decide)]; assumption)) (hrd _ _ _ (by have := hNe h12; omega) hS.1) (by decide) (Nat.le_refl _) (Nat.le_refl _) rfl rfl (Nat.le_of_ble_eq_true rfl) (fun r18 μ18 h18 => ?_)
      obtain ⟨y0, s9, y1, y2, y3⟩ := h18
      subst y0; subst y1
      dsimp only [Option.toList_none, List.nil_append]
      refine z_iconst (v := nI 1) (by decide) (pc' := 22) 11 rfl rfl ?_
      exact z_ireturn 12 rfl rfl (by first | rfl | exact zbo_nar) rfl rfl (by have hc : (b = false ∧ mtk (tc j) = w) := ⟨eq_false_of_ne_true h4, h12⟩; exact ⟨by rw [zbo_t hc], s9, rfl, by rw [if_pos hc]; exact ST_n hS y2 y3, sEP_n y3⟩)
    · refine z_iconst (v := nI 0) (by decide) (pc' := 16) 7 rfl rfl ?_
      exact z_ireturn 8 rfl rfl (by first | rfl | exact zbo_nar) rfl rfl (by have hc : ¬ (b = false ∧ mtk (tc j) = w) := (fun z => h12 z.2); exact ⟨by rw [zbo_f hc], s, rfl, by rw [if_neg hc]; exact hS, fun _ _ => rfl⟩)
set_option maxHeartbeats 4000000 in
set_option maxRecDepth 100000 in
theorem c_Mo_step {G : zG} {n u : Nat} {ν : Nat → va_E} {tc tp te : Nat → Nat} {S : Nat → Nat → Nat} {mo : Nat} {pr fa : Nat → Nat} {sc ch : Int32} {rc : Nat} {s ρ : Nat → Int32} {j o la : Nat} {b : Bool} {v : Int32} (hS : ST tc tp te s j b o la) (hla : la < 500) : zMet G 0 M_Mo_step [.ref 88, .int v] n u (pm ν s (mk S mo pr fa sc ch rc ρ)) n u (zE none (pm ν (un s 12 (nI (la + 1))) (mk S mo pr fa sc ch rc (upd ρ (118 + la) v)))) := by
  refine z_start (lv := [.ref 88, .int v]) K_Mo_step rfl rfl (Nat.le_refl _) (Nat.le_refl _) (Nat.le_of_ble_eq_true rfl) rfl ?_
  refine z_al0 (pc' := 1) 0 rfl rfl ?_
  refine z_getf (pc' := 4) 1 rfl rfl f_Mo_9_12 (by first | exact pm_f | exact pm_1 | (rw [pm_o (by decide)]; assumption)) (by rfl) ?_
  refine z_bipush (v := nI 118) (by decide) (pc' := 6) 2 rfl rfl ?_
  refine z_al0 (pc' := 7) 3 rfl rfl ?_
  refine z_getf (pc' := 10) 4 rfl rfl f_Mo_169_12 (by first | exact pm_f | exact pm_1 | (rw [pm_o (by decide)]; assumption)) (by rfl) ?_
  rw [hS.2.2.2]
  first | refine z_iaddN (pc' := 11) 5 rfl rfl ?_ | refine z_iadd (pc' := 11) 5 rfl rfl ?_
  refine z_il1 (pc' := 12) 6 rfl rfl ?_
  refine z_iast (pc' := 13) 7 rfl rfl (by first | exact pm_f | exact pm_1 | (rw [pm_o (by decide)]; assumption)) (by omega) (by decide) ?_
  rw [pm_s1, mk_u_r9 (by omega)]
  refine z_al0 (pc' := 14) 8 rfl rfl ?_
  refine z_dup rfl (pc' := 15) 9 rfl rfl ?_
  refine z_getf (pc' := 18) 10 rfl rfl f_Mo_169_12 (by first | exact pm_f | exact pm_1 | (rw [pm_o (by decide)]; assumption)) (by rfl) ?_
  rw [hS.2.2.2]
  refine z_iconst (v := nI 1) (by decide) (pc' := 19) 11 rfl rfl ?_
  first | refine z_iaddN (pc' := 20) 12 rfl rfl ?_ | refine z_iadd (pc' := 20) 12 rfl rfl ?_
  refine z_putf (pc' := 23) 13 rfl rfl f_Mo_169_12 (by first | exact pm_f | exact pm_1 | (rw [pm_o (by decide)]; assumption)) rfl rfl (by rfl) (by rfl) ?_
  dsimp only [List.set]
  rw [mob_12, pm_s0]
  exact z_return 14 rfl rfl rfl rfl (by exact ⟨rfl, rfl⟩)
theorem mop_f : ∀ {c : Nat}, 13 ≤ c → c ≤ 17 → nI 8 - nI (c - 4) = mop c := by
  intro c h1 h2
  rcases (show c = 13 ∨ c = 14 ∨ c = 15 ∨ c = 16 ∨ c = 17 by omega) with e | e | e | e | e <;> subst e <;> decide
set_option maxHeartbeats 4000000 in
set_option maxRecDepth 100000 in
theorem c_Mo_side {G : zG} {n u : Nat} {ν : Nat → va_E} {tc tp te : Nat → Nat} {N : Nat} (hT : iTk tc N) (hrd : rdS G n u ν tc tp te N) {S : Nat → Nat → Nat} {mo : Nat} {pr fa : Nat → Nat} {sc ch : Int32} {rc : Nat} {s ρ : Nat → Int32} {j o la : Nat} {b : Bool} (hS : ST tc tp te s j b o la) (hj : j ≤ N) : zMet G 4 M_Mo_side [.ref 88] n u (pm ν s (mk S mo pr fa sc ch rc ρ)) n u (fun r μ' => ∃ v : Int32, r = some (.int v) ∧ ∃ s' : Nat → Int32, μ' = (pm ν s' (mk S mo pr fa sc ch rc ρ)) ∧ ST tc tp te s' (if (b || !opB (tc j)) = true then j else j + 1) (b || !opB (tc j)) o la ∧ ((b || !opB (tc j)) = false → v = mop (tc j)) ∧ sEP s s') := by
  have hvc := hT.2.2 j
  have hv := mtk_le hvc
  refine z_start (lv := [.ref 88, .retAddr 0]) K_Mo_side rfl rfl (Nat.le_refl _) (Nat.le_refl _) (Nat.le_of_ble_eq_true rfl) rfl ?_
  refine z_al0 (pc' := 1) 0 rfl rfl ?_
  refine z_getf (pc' := 4) 1 rfl rfl f_Mo_152_12 (by first | exact pm_f | exact pm_1 | (rw [pm_o (by decide)]; assumption)) (by rfl) ?_
  rw [hS.1.1]
  refine z_bipush (v := nI 20) (by decide) (pc' := 6) 2 rfl rfl ?_
  first | refine z_icmp_neN (pc' := 9) 3 rfl rfl (tgt := 16) rfl (by omega) (by omega) (fun h6 => ?_) (fun h6 => ?_) | refine z_icmp_ne (pc' := 9) 3 rfl rfl (tgt := 16) rfl (fun h6 => ?_) (fun h6 => ?_)
  · refine z_bipush (v := nI 8) (by decide) (pc' := 18) 7 rfl rfl ?_
    refine z_al0 (pc' := 19) 8 rfl rfl ?_
    refine z_getf (pc' := 22) 9 rfl rfl f_Mo_152_12 (by first | exact pm_f | exact pm_1 | (rw [pm_o (by decide)]; assumption)) (by rfl) ?_
    rw [hS.1.1]
    refine z_isub (pc' := 23) 10 rfl rfl ?_
    refine z_is1 rfl rfl (pc' := 24) 11 rfl rfl ?_
    refine z_al0 (pc' := 25) 12 rfl rfl ?_
    refine z_al0 (pc' := 26) 13 rfl rfl ?_
    refine z_getf (pc' := 29) 14 rfl rfl f_Mo_162_12 (by first | exact pm_f | exact pm_1 | (rw [pm_o (by decide)]; assumption)) (by rfl) ?_
    rw [hS.2.1]
    first | refine z_if_neB (pc' := 32) 15 rfl rfl (tgt := 55) rfl (fun h29 => ?_) (fun h29 => ?_) | refine z_if_neN (pc' := 32) 15 rfl rfl (tgt := 55) rfl (by omega) (fun h29 => ?_) (fun h29 => ?_) | refine z_if_ne (pc' := 32) 15 rfl rfl (tgt := 55) rfl (fun h29 => ?_) (fun h29 => ?_)
    · refine z_iconst (v := nI 1) (by decide) (pc' := 56) 26 rfl rfl ?_
      refine z_goto 27 rfl (tgt := 60) rfl ?_
      refine z_putf (pc' := 63) 29 rfl rfl f_Mo_162_12 (by first | exact pm_f | exact pm_1 | (rw [pm_o (by decide)]; assumption)) rfl rfl (by rfl) (by rfl) ?_
      dsimp only [List.set]
      rw [mob_10, pm_s0, show nI 1 = bI true from rfl]
      refine z_al0 (pc' := 64) 30 rfl rfl ?_
      refine z_getf (pc' := 67) 31 rfl rfl f_Mo_162_12 (by first | exact pm_f | exact pm_1 | (rw [pm_o (by decide)]; assumption)) (by rfl) ?_
      refine z_te (show _ = nI 1 from rfl) ?_
      refine z_if_ne_t 32 rfl (tgt := 74) rfl (by decide) ?_
      refine z_il1 (pc' := 75) 35 rfl rfl ?_
      exact z_ireturn 36 rfl rfl (by first | rfl | exact zbo_nar) rfl rfl (by have eb : (b || !opB (tc j)) = true := (by rw [h29]; rfl); rw [eb]; exact ⟨_, rfl, _, rfl, ST_b hS, fun z => Bool.noConfusion z, sEP_u (by decide) (by decide)⟩)
    · refine z_al0 (pc' := 33) 16 rfl rfl ?_
      refine z_getf (pc' := 36) 17 rfl rfl f_Mo_152_12 (by first | exact pm_f | exact pm_1 | (rw [pm_o (by decide)]; assumption)) (by rfl) ?_
      rw [hS.1.1]
      refine z_bipush (v := nI 20) (by decide) (pc' := 38) 18 rfl rfl ?_
      refine z_icmp_eq_f (pc' := 41) 19 rfl rfl (tgt := 59) rfl (fun z => h6 ((nI_eq (by omega) (by decide)).mp z)) ?_
      refine z_al0 (pc' := 42) 20 rfl rfl ?_
      refine z_getf (pc' := 45) 21 rfl rfl f_Mo_152_12 (by first | exact pm_f | exact pm_1 | (rw [pm_o (by decide)]; assumption)) (by rfl) ?_
      rw [hS.1.1]
      refine z_bipush (v := nI 9) (by decide) (pc' := 47) 22 rfl rfl ?_
      refine z_bipush (v := nI 13) (by decide) (pc' := 49) 23 rfl rfl ?_
      refine z_callS1 (pc' := 52) 24 rfl rfl k_Mo_67 (c_Mo_in _ _ _) (by decide) (Nat.le_refl _) (Nat.le_refl _) rfl rfl (Nat.le_of_ble_eq_true rfl) ?_
      first | refine z_if_neB (pc' := 55) 25 rfl rfl (tgt := 59) rfl (fun h52 => ?_) (fun h52 => ?_) | refine z_if_neN (pc' := 55) 25 rfl rfl (tgt := 59) rfl (by omega) (fun h52 => ?_) (fun h52 => ?_) | refine z_if_ne (pc' := 55) 25 rfl rfl (tgt := 59) rfl (fun h52 => ?_) (fun h52 => ?_)
      · refine z_iconst (v := nI 0) (by decide) (pc' := 60) 28 rfl rfl ?_
        refine z_putf (pc' := 63) 29 rfl rfl f_Mo_162_12 (by first | exact pm_f | exact pm_1 | (rw [pm_o (by decide)]; assumption)) rfl rfl (by rfl) (by rfl) ?_
        dsimp only [List.set]
        rw [mob_10, pm_s0, show nI 0 = bI false from rfl]
        refine z_al0 (pc' := 64) 30 rfl rfl ?_
        refine z_getf (pc' := 67) 31 rfl rfl f_Mo_162_12 (by first | exact pm_f | exact pm_1 | (rw [pm_o (by decide)]; assumption)) (by rfl) ?_
        refine z_te (show _ = nI 0 from rfl) ?_
        refine z_if_ne_f (pc' := 70) 32 rfl rfl (tgt := 74) rfl (show nI 0 = 0 from rfl) ?_
        have h9 : 9 ≤ mtk (tc j) ∧ mtk (tc j) ≤ 13 := ⟨(nI_leI (by decide) (by omega)).mp h52.1, (nI_leI (by omega) (by decide)).mp h52.2⟩
        have e25 : tc j ≤ 25 := by
          rcases hvc.2 with q | q
          · exact q
          · exact absurd (mtk_b q) h6
        have eq9 := (mtk_s _ e25).2.2.2.2.2.2.2.2.2.2.2.2.1.mp h9
        have e13 : 13 ≤ tc j ∧ tc j ≤ 17 := by
          rcases opB_t.mp eq9 with q | q
          · exact q
          · omega
        have e4 := (mtk_s _ e25).2.2.2.2.2.2.2.2.2.2.2.2.2.2.2 e13.1 e13.2
        have ev : nI 8 - nI (mtk (tc j)) = mop (tc j) := by rw [e4]; exact mop_f e13.1 e13.2
        have eo : opB (tc j) = true := (mtk_op hvc).mp (Or.inr h9)
        have eb : (b || !opB (tc j)) = false := by rw [eo, eq_false_of_ne_true h29]; rfl
        have hjN : j ≠ N := fun z => by rw [z, hT.2.1] at eo; exact absurd eo (by decide)
        refine z_al0 (pc' := 71) 33 rfl rfl ?_
        refine z_callV (pc' := 74) 34 rfl rfl k_Mo_166 (by first | exact pm_f | exact pm_1 | (rw [pm_o (by decide)]; assumption)) (hrd _ _ _ (by omega) (ST_b (b' := false) hS).1) (by decide) (Nat.le_refl _) (Nat.le_refl _) rfl rfl (Nat.le_of_ble_eq_true rfl) (fun r71 μ71 h71 => ?_)
        obtain ⟨y0, s9, y1, y2, y3⟩ := h71
        subst y0; subst y1
        dsimp only [Option.toList_none, List.nil_append]
        refine z_il1 (pc' := 75) 35 rfl rfl ?_
        exact z_ireturn 36 rfl rfl (by first | rfl | exact zbo_nar) rfl rfl (by exact ⟨_, rfl, s9, rfl, by rw [eb]; exact ST_n (ST_b (b' := false) hS) y2 y3, fun _ => ev, sEP_t (sEP_u (k := 10) (by decide) (by decide)) (sEP_n y3)⟩)
      · refine z_iconst (v := nI 1) (by decide) (pc' := 56) 26 rfl rfl ?_
        refine z_goto 27 rfl (tgt := 60) rfl ?_
        refine z_putf (pc' := 63) 29 rfl rfl f_Mo_162_12 (by first | exact pm_f | exact pm_1 | (rw [pm_o (by decide)]; assumption)) rfl rfl (by rfl) (by rfl) ?_
        dsimp only [List.set]
        rw [mob_10, pm_s0, show nI 1 = bI true from rfl]
        refine z_al0 (pc' := 64) 30 rfl rfl ?_
        refine z_getf (pc' := 67) 31 rfl rfl f_Mo_162_12 (by first | exact pm_f | exact pm_1 | (rw [pm_o (by decide)]; assumption)) (by rfl) ?_
        refine z_te (show _ = nI 1 from rfl) ?_
        refine z_if_ne_t 32 rfl (tgt := 74) rfl (by decide) ?_
        refine z_il1 (pc' := 75) 35 rfl rfl ?_
        exact z_ireturn 36 rfl rfl (by first | rfl | exact zbo_nar) rfl rfl (by have eo : opB (tc j) = false := eq_false_of_ne_true (fun z => ((mtk_op hvc).mpr z).elim (fun y => h6 y) (fun y => h52 ⟨nI_le y.1 (by omega), nI_le y.2 (by decide)⟩)); have eb : (b || !opB (tc j)) = true := (by rw [eo, Bool.not_false, Bool.or_true]); rw [eb]; exact ⟨_, rfl, _, rfl, ST_b hS, fun z => Bool.noConfusion z, sEP_u (by decide) (by decide)⟩)
  · refine z_al0 (pc' := 10) 4 rfl rfl ?_
    refine z_getf (pc' := 13) 5 rfl rfl f_Mo_149_12 (by first | exact pm_f | exact pm_1 | (rw [pm_o (by decide)]; assumption)) (by rfl) ?_
    refine z_goto 6 rfl (tgt := 23) rfl ?_
    refine z_is1 rfl rfl (pc' := 24) 11 rfl rfl ?_
    refine z_al0 (pc' := 25) 12 rfl rfl ?_
    refine z_al0 (pc' := 26) 13 rfl rfl ?_
    refine z_getf (pc' := 29) 14 rfl rfl f_Mo_162_12 (by first | exact pm_f | exact pm_1 | (rw [pm_o (by decide)]; assumption)) (by rfl) ?_
    rw [hS.2.1]
    first | refine z_if_neB (pc' := 32) 15 rfl rfl (tgt := 55) rfl (fun h29 => ?_) (fun h29 => ?_) | refine z_if_neN (pc' := 32) 15 rfl rfl (tgt := 55) rfl (by omega) (fun h29 => ?_) (fun h29 => ?_) | refine z_if_ne (pc' := 32) 15 rfl rfl (tgt := 55) rfl (fun h29 => ?_) (fun h29 => ?_)
    · refine z_iconst (v := nI 1) (by decide) (pc' := 56) 26 rfl rfl ?_
      refine z_goto 27 rfl (tgt := 60) rfl ?_
      refine z_putf (pc' := 63) 29 rfl rfl f_Mo_162_12 (by first | exact pm_f | exact pm_1 | (rw [pm_o (by decide)]; assumption)) rfl rfl (by rfl) (by rfl) ?_
      dsimp only [List.set]
      rw [mob_10, pm_s0, show nI 1 = bI true from rfl]
      refine z_al0 (pc' := 64) 30 rfl rfl ?_
      refine z_getf (pc' := 67) 31 rfl rfl f_Mo_162_12 (by first | exact pm_f | exact pm_1 | (rw [pm_o (by decide)]; assumption)) (by rfl) ?_
      refine z_te (show _ = nI 1 from rfl) ?_
      refine z_if_ne_t 32 rfl (tgt := 74) rfl (by decide) ?_
      refine z_il1 (pc' := 75) 35 rfl rfl ?_
      exact z_ireturn 36 rfl rfl (by first | rfl | exact zbo_nar) rfl rfl (by have eb : (b || !opB (tc j)) = true := (by rw [h29]; rfl); rw [eb]; exact ⟨_, rfl, _, rfl, ST_b hS, fun z => Bool.noConfusion z, sEP_u (by decide) (by decide)⟩)
    · refine z_al0 (pc' := 33) 16 rfl rfl ?_
      refine z_getf (pc' := 36) 17 rfl rfl f_Mo_152_12 (by first | exact pm_f | exact pm_1 | (rw [pm_o (by decide)]; assumption)) (by rfl) ?_
      rw [hS.1.1]
      refine z_bipush (v := nI 20) (by decide) (pc' := 38) 18 rfl rfl ?_
      refine z_icmp_eq_t 19 rfl (tgt := 59) rfl (congrArg nI h6) ?_
      refine z_iconst (v := nI 0) (by decide) (pc' := 60) 28 rfl rfl ?_
      refine z_putf (pc' := 63) 29 rfl rfl f_Mo_162_12 (by first | exact pm_f | exact pm_1 | (rw [pm_o (by decide)]; assumption)) rfl rfl (by rfl) (by rfl) ?_
      dsimp only [List.set]
      rw [mob_10, pm_s0, show nI 0 = bI false from rfl]
      refine z_al0 (pc' := 64) 30 rfl rfl ?_
      refine z_getf (pc' := 67) 31 rfl rfl f_Mo_162_12 (by first | exact pm_f | exact pm_1 | (rw [pm_o (by decide)]; assumption)) (by rfl) ?_
      refine z_te (show _ = nI 0 from rfl) ?_
      refine z_if_ne_f (pc' := 70) 32 rfl rfl (tgt := 74) rfl (show nI 0 = 0 from rfl) ?_
      have e20 : 100 ≤ tc j := by
        rcases hvc.2 with q | q
        · exact absurd h6 (mtk_s _ q).2.1
        · exact q
      have ev : s 9 = mop (tc j) := by rw [hS.1.2.1 (Or.inl e20), mop, if_pos e20, mvl, if_pos e20]
      have eo : opB (tc j) = true := (mtk_op hvc).mp (Or.inl h6)
      have eb : (b || !opB (tc j)) = false := by rw [eo, eq_false_of_ne_true h29]; rfl
      have hjN : j ≠ N := fun z => by rw [z, hT.2.1] at eo; exact absurd eo (by decide)
      refine z_al0 (pc' := 71) 33 rfl rfl ?_
      refine z_callV (pc' := 74) 34 rfl rfl k_Mo_166 (by first | exact pm_f | exact pm_1 | (rw [pm_o (by decide)]; assumption)) (hrd _ _ _ (by omega) (ST_b (b' := false) hS).1) (by decide) (Nat.le_refl _) (Nat.le_refl _) rfl rfl (Nat.le_of_ble_eq_true rfl) (fun r71 μ71 h71 => ?_)
      obtain ⟨y0, s9, y1, y2, y3⟩ := h71
      subst y0; subst y1
      dsimp only [Option.toList_none, List.nil_append]
      refine z_il1 (pc' := 75) 35 rfl rfl ?_
      exact z_ireturn 36 rfl rfl (by first | rfl | exact zbo_nar) rfl rfl (by exact ⟨_, rfl, s9, rfl, by rw [eb]; exact ST_n (ST_b (b' := false) hS) y2 y3, fun _ => ev, sEP_t (sEP_u (k := 10) (by decide) (by decide)) (sEP_n y3)⟩)
