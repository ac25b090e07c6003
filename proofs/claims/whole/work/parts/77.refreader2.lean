/-! ===== the reference reads conditions ===== -/
theorem zW_im {G : zG} {d : Nat} {M : zM} {pc : Nat} {lv st : List Value} {n u : Nat} {μ : Nat → va_E} {nF uF : Nat} {Φ Ψ : zP} (k : zW G d M pc lv st n u μ nF uF Φ) (h : ∀ r μ', Φ r μ' → Ψ r μ') : zW G d M pc lv st n u μ nF uF Ψ := by
  intro p e R s m args below meth c n0 u0 B h1 h2 H locs ls hR hl hlv T hT X
  obtain ⟨t, ht, o, q1, q2, ⟨r2, μ2, q3, q4, q5⟩, q6⟩ := k p e R s m args below meth c n0 u0 B h1 h2 H locs ls hR hl hlv T hT X
  exact ⟨t, ht, o, q1, q2, ⟨_, _, q3, h _ _ q4, q5⟩, q6⟩
theorem mtk_12 {c : Nat} (h : vc c) : mtk c = 17 ↔ c = 12 := mtk_w h (by decide) (by decide) (fun c h => (mtk_s c h).2.2.1)
theorem mtk_19 {c : Nat} (h : vc c) : mtk c = 22 ↔ c = 19 := mtk_w h (by decide) (by decide) (fun c h => (mtk_s c h).2.2.2.1)
theorem mtk_11 {c : Nat} (h : vc c) : mtk c = 16 ↔ c = 11 := mtk_w h (by decide) (by decide) (fun c h => (mtk_s c h).2.2.2.2.1)
theorem mtk_10 {c : Nat} (h : vc c) : mtk c = 15 ↔ c = 10 := mtk_w h (by decide) (by decide) (fun c h => (mtk_s c h).2.2.2.2.2.1)
theorem mtk_20 {c : Nat} (h : vc c) : mtk c = 23 ↔ c = 20 := mtk_w h (by decide) (by decide) (fun c h => (mtk_s c h).2.2.2.2.2.2.1)
theorem mtk_18 {c : Nat} (h : vc c) : mtk c = 24 ↔ c = 18 := mtk_w h (by decide) (by decide) (fun c h => (mtk_s c h).2.2.2.2.2.2.2.1)
theorem mtk_9 {c : Nat} (h : vc c) : mtk c = 14 ↔ c = 9 := mtk_w h (by decide) (by decide) (fun c h => (mtk_s c h).2.2.2.2.2.2.2.2.1)
theorem mtk_25 {c : Nat} (h : vc c) : mtk c = 25 ↔ c = 25 := mtk_w h (by decide) (by decide) (fun c h => (mtk_s c h).2.2.2.2.2.2.2.2.2.2.2.2.2.1)
theorem sgM_app {ρ : Nat → Int32} {y : zI} {m e : Nat} (h2 : sgM ρ m y e) : ∀ (x : zI) (b : Nat), sgM ρ b x m → sgM ρ b (x ++ y) e
  | [], b, h => by
    have h : b = m := h
    rw [h]
    exact h2
  | (o, l, r) :: x, b, h => by
    show sgM ρ b ((o, l, r) :: (x ++ y)) e
    unfold sgM at h ⊢
    split at h
    · rename_i q; rw [if_pos q]; exact ⟨h.1, sgM_app h2 x _ h.2⟩
    · rename_i q; rw [if_neg q]
      split at h
      · rename_i q; rw [if_pos q]; exact ⟨h.1, sgM_app h2 x _ h.2⟩
      · rename_i q; rw [if_neg q]
        split at h
        · rename_i q; rw [if_pos q]; exact ⟨h.1, sgM_app h2 x _ h.2⟩
        · rename_i q; rw [if_neg q]
          exact ⟨h.1, h.2.1, h.2.2.1, sgM_app h2 x _ h.2.2.2⟩
theorem sgM_ext {ρ ρ' : Nat → Int32} : ∀ (t : zI) (b e : Nat), (∀ j, j < 118 + e → ρ' j = ρ j) → sgM ρ b t e → sgM ρ' b t e
  | [], b, e, hq, h => h
  | (o, l, r) :: t, b, e, hq, h => by
    unfold sgM at h ⊢
    split at h
    · rename_i q; rw [if_pos q]
      have := sgM_le t _ _ h.2
      exact ⟨by rw [hq _ (by omega)]; exact h.1, sgM_ext t _ _ hq h.2⟩
    · rename_i q; rw [if_neg q]
      split at h
      · rename_i q; rw [if_pos q]
        have := sgM_le t _ _ h.2
        exact ⟨by rw [hq _ (by omega)]; exact h.1, sgM_ext t _ _ hq h.2⟩
      · rename_i q; rw [if_neg q]
        split at h
        · rename_i q; rw [if_pos q]
          have := sgM_le t _ _ h.2
          exact ⟨by rw [hq _ (by omega)]; exact h.1, sgM_ext t _ _ hq h.2⟩
        · rename_i q; rw [if_neg q]
          have := sgM_le t _ _ h.2.2.2
          exact ⟨by rw [hq _ (by omega)]; exact h.1, by rw [hq _ (by omega)]; exact h.2.1, by rw [hq _ (by omega)]; exact h.2.2.1, sgM_ext t _ _ hq h.2.2.2⟩
def moP (ν : Nat → va_E) (tc tp te : Nat → Nat) (S : Nat → Nat → Nat) (mo : Nat) (pr fa : Nat → Nat) (sc ch : Int32) (rc : Nat) (s ρ : Nat → Int32) (o la E : Nat) (R : zR9) : zP := fun r μ' => r = none ∧ ∃ (s' ρ' : Nat → Int32) (la' : Nat), μ' = pm ν s' (mk S mo pr fa sc ch rc ρ') ∧ ST tc tp te s' R.1 (!R.2.1) o la' ∧ sEP s s' ∧ (∀ i, i < 118 + la → ρ' i = ρ i) ∧ (R.2.1 = true → la' = la + wl R.2.2.2 ∧ sgM ρ' la R.2.2.2 la') ∧ (la ≤ la' ∧ la' ≤ E)
set_option maxHeartbeats 4000000 in
set_option maxRecDepth 100000 in
theorem l_Mo_nots {G : zG} {n u d : Nat} {Φ : zP} {ν : Nat → va_E} {tc tp te : Nat → Nat} {N : Nat} (hT : iTk tc N) (hrd : rdS G n u ν tc tp te N) {S : Nat → Nat → Nat} {mo : Nat} {pr fa : Nat → Nat} {sc ch : Int32} {rc : Nat} {ρ : Nat → Int32} {o la : Nat} (hd : 5 ≤ d) : ∀ F j k s, j ≤ N → N ≤ j + F → ST tc tp te s j false o la →
    (∀ s', ST tc tp te s' (j + ntC tc F j) false o la → sEP s s' → zW G d M_Mo_one 17 [.ref 88, .int (nI (k + ntC tc F j)), .retAddr 0, .retAddr 0, .retAddr 0] [] n u (pm ν s' (mk S mo pr fa sc ch rc ρ)) n u Φ) →
    zW G d M_Mo_one 2 [.ref 88, .int (nI k), .retAddr 0, .retAddr 0, .retAddr 0] [] n u (pm ν s (mk S mo pr fa sc ch rc ρ)) n u Φ
  | 0, j, k, s, hj, hF, hS, K => by
    have hjN : j = N := by omega
    have h25 : tc j = 25 := by rw [hjN]; exact hT.2.1
    have hm : ¬ (false = false ∧ mtk (tc j) = 17) := fun z => by rw [h25] at z; exact absurd z.2 (by decide)
    refine z_al0 (pc' := 3) 2 rfl rfl ?_
    refine z_bipush (v := nI 17) (by decide) (pc' := 5) 3 rfl rfl ?_
    refine z_callV (pc' := 8) 4 rfl rfl k_Mo_172 (by first | exact pm_f | exact pm_1 | (rw [pm_o (by decide)]; assumption)) (c_Mo_passes hT hrd hS hj (by decide)) (by omega) (Nat.le_refl _) (Nat.le_refl _) rfl rfl (Nat.le_of_ble_eq_true rfl) (fun r5 μ5 h5 => ?_)
    obtain ⟨y0, s5, y1, y5a, y5b⟩ := h5
    subst y0; subst y1
    dsimp only [Option.toList_some, List.cons_append, List.nil_append]
    rw [if_neg hm] at y5a
    first | refine z_if_eqB (pc' := 11) 5 rfl rfl (tgt := 17) rfl (fun h8 => ?_) (fun h8 => ?_) | refine z_if_eqN (pc' := 11) 5 rfl rfl (tgt := 17) rfl (by omega) (fun h8 => ?_) (fun h8 => ?_) | refine z_if_eq (pc' := 11) 5 rfl rfl (tgt := 17) rfl (fun h8 => ?_) (fun h8 => ?_)
    · exact K s5 y5a y5b
    · exact absurd h8 hm
  | F + 1, j, k, s, hj, hF, hS, K => by
    have hv := hT.2.2 j
    have h25 : j = N → tc j = 25 := fun z => by rw [z]; exact hT.2.1
    refine z_al0 (pc' := 3) 2 rfl rfl ?_
    refine z_bipush (v := nI 17) (by decide) (pc' := 5) 3 rfl rfl ?_
    refine z_callV (pc' := 8) 4 rfl rfl k_Mo_172 (by first | exact pm_f | exact pm_1 | (rw [pm_o (by decide)]; assumption)) (c_Mo_passes hT hrd hS hj (by decide)) (by omega) (Nat.le_refl _) (Nat.le_refl _) rfl rfl (Nat.le_of_ble_eq_true rfl) (fun r5 μ5 h5 => ?_)
    obtain ⟨y0, s5, y1, y5a, y5b⟩ := h5
    subst y0; subst y1
    dsimp only [Option.toList_some, List.cons_append, List.nil_append]
    first | refine z_if_eqB (pc' := 11) 5 rfl rfl (tgt := 17) rfl (fun h8 => ?_) (fun h8 => ?_) | refine z_if_eqN (pc' := 11) 5 rfl rfl (tgt := 17) rfl (by omega) (fun h8 => ?_) (fun h8 => ?_) | refine z_if_eq (pc' := 11) 5 rfl rfl (tgt := 17) rfl (fun h8 => ?_) (fun h8 => ?_)
    · rw [if_neg h8] at y5a
      rw [show ntC tc (F + 1) j = 0 from if_neg (fun z => h8 ⟨rfl, (mtk_12 hv).mpr z⟩)] at K
      exact K s5 y5a y5b
    · first | refine z_inc1N rfl rfl (pc' := 14) 6 rfl rfl ?_ | refine z_inc1 rfl rfl rfl (pc' := 14) 6 rfl rfl ?_
      refine z_goto 7 rfl (tgt := 2) rfl ?_
      rw [if_pos h8] at y5a
      have e12 := (mtk_12 hv).mp h8.2
      rw [show ntC tc (F + 1) j = ntC tc F (j + 1) + 1 from if_pos e12] at K
      refine l_Mo_nots hT hrd hd F (j + 1) (k + 1) s5 (by omega) (by omega) y5a (fun s2 g1 g2 => ?_)
      rw [show j + 1 + ntC tc F (j + 1) = j + (ntC tc F (j + 1) + 1) by omega] at g1
      rw [show k + 1 + ntC tc F (j + 1) = k + (ntC tc F (j + 1) + 1) by omega]
      exact K s2 g1 (sEP_t y5b g2)
set_option maxHeartbeats 4000000 in
set_option maxRecDepth 100000 in
theorem l_Mo_tailB {G : zG} {n u d : Nat} {ν : Nat → va_E} {tc tp te : Nat → Nat} {s m : Nat → Int32} {j o la k : Nat} {x3 x4 : Value} (hk : k ≤ 200) (hS : ST tc tp te s j true o la) : zW G d M_Mo_one 161 [.ref 88, .int (nI k), .int (nI 0), x3, x4] [] n u (pm ν s m) n u (zE none (pm ν s m)) := by
  refine z_il2 (pc' := 162) 82 rfl rfl ?_
  refine z_il1 (pc' := 163) 83 rfl rfl ?_
  first | refine z_icmp_geN (pc' := 166) 84 rfl rfl (tgt := 185) rfl (by omega) (by omega) (fun h163 => ?_) (fun h163 => ?_) | refine z_icmp_ge (pc' := 166) 84 rfl rfl (tgt := 185) rfl (fun h163 => ?_) (fun h163 => ?_)
  · exact z_return 93 rfl rfl rfl rfl (by exact ⟨rfl, rfl⟩)
  · refine z_al0 (pc' := 167) 85 rfl rfl ?_
    refine z_getf (pc' := 170) 86 rfl rfl f_Mo_162_12 (by first | exact pm_f | exact pm_1 | (rw [pm_o (by decide)]; assumption)) (by rfl) ?_
    rw [hS.2.1]
    refine z_if_ne_t 87 rfl (tgt := 185) rfl (by decide) ?_
    exact z_return 93 rfl rfl rfl rfl (by exact ⟨rfl, rfl⟩)
set_option maxHeartbeats 4000000 in
set_option maxRecDepth 100000 in
theorem l_Mo_tail {G : zG} {n u d : Nat} {ν : Nat → va_E} {tc tp te : Nat → Nat} {S : Nat → Nat → Nat} {mo : Nat} {pr fa : Nat → Nat} {sc ch : Int32} {rc : Nat} {j o k : Nat} {x3 x4 : Value} (hk : k ≤ 200) (hd : 1 ≤ d) : ∀ m i s (ρ : Nat → Int32) la, i + m = k → la + m ≤ 400 → ST tc tp te s j false o la → zW G d M_Mo_one 161 [.ref 88, .int (nI k), .int (nI i), x3, x4] [] n u (pm ν s (mk S mo pr fa sc ch rc ρ)) n u (fun r μ' => r = none ∧ ∃ s' ρ' : Nat → Int32, μ' = (pm ν s' (mk S mo pr fa sc ch rc ρ')) ∧ ST tc tp te s' j false o (la + m) ∧ sEP s s' ∧ (∀ i, i < 118 + la → ρ' i = ρ i) ∧ sgM ρ' la (nts m) (la + m))
  | 0, i, s, ρ, la, e, hl, hS => by
    refine z_il2 (pc' := 162) 82 rfl rfl ?_
    refine z_il1 (pc' := 163) 83 rfl rfl ?_
    first | refine z_icmp_geN (pc' := 166) 84 rfl rfl (tgt := 185) rfl (by omega) (by omega) (fun h163 => ?_) (fun h163 => ?_) | refine z_icmp_ge (pc' := 166) 84 rfl rfl (tgt := 185) rfl (fun h163 => ?_) (fun h163 => ?_)
    · exact z_return 93 rfl rfl rfl rfl (by exact ⟨rfl, s, ρ, rfl, hS, fun _ _ => rfl, fun _ _ => rfl, rfl⟩)
    · exfalso; omega
  | m + 1, i, s, ρ, la, e, hl, hS => by
    refine z_il2 (pc' := 162) 82 rfl rfl ?_
    refine z_il1 (pc' := 163) 83 rfl rfl ?_
    first | refine z_icmp_geN (pc' := 166) 84 rfl rfl (tgt := 185) rfl (by omega) (by omega) (fun h163 => ?_) (fun h163 => ?_) | refine z_icmp_ge (pc' := 166) 84 rfl rfl (tgt := 185) rfl (fun h163 => ?_) (fun h163 => ?_)
    · exfalso; omega
    · refine z_al0 (pc' := 167) 85 rfl rfl ?_
      refine z_getf (pc' := 170) 86 rfl rfl f_Mo_162_12 (by first | exact pm_f | exact pm_1 | (rw [pm_o (by decide)]; assumption)) (by rfl) ?_
      rw [hS.2.1]
      refine z_if_ne_f (pc' := 173) 87 rfl rfl (tgt := 185) rfl (by decide) ?_
      refine z_al0 (pc' := 174) 88 rfl rfl ?_
      refine z_bipush (v := nI 17) (by decide) (pc' := 176) 89 rfl rfl ?_
      refine z_callV0 (pc' := 179) 90 rfl rfl k_Mo_184 (by first | exact pm_f | exact pm_1 | (rw [pm_o (by decide)]; assumption)) (c_Mo_step hS (by omega)) (by omega) (Nat.le_refl _) (Nat.le_refl _) rfl rfl (Nat.le_of_ble_eq_true rfl) ?_
      first | refine z_inc2N rfl rfl (pc' := 182) 91 rfl rfl ?_ | refine z_inc2 rfl rfl rfl (pc' := 182) 91 rfl rfl ?_
      refine z_goto 92 rfl (tgt := 161) rfl ?_
      refine zW_im (l_Mo_tail hk hd m (i + 1) _ _ (la + 1) (by omega) (by omega) (ST_l (la' := la + 1) hS)) (fun r μ' hq => ?_)
      obtain ⟨q1, s', ρ', q2, q3, q4, q5, q6⟩ := hq
      refine ⟨q1, s', ρ', q2, by rw [show la + (m + 1) = la + 1 + m by omega]; exact q3, sEP_t (sEP_u (by decide) (by decide)) q4, fun i hi => ?_, ?_⟩
      · rw [q5 i (by omega), upd_no (by omega)]
      · show sgM ρ' la ((12, 0, 0) :: nts m) (la + (m + 1))
        unfold sgM
        rw [if_pos rfl, show la + (m + 1) = la + 1 + m by omega]
        exact ⟨by rw [q5 _ (by omega), upd_at], q6⟩
