set_option maxHeartbeats 4000000 in
set_option maxRecDepth 100000 in
theorem l_start {G : zG} (hL : zL G ≤ 2560) : ∃ al, al ≤ 512 ∧ ∀ (μ : Nat → va_E), zW G 19 M_Lw_law 0 [.ref 2, .retAddr 0, .retAddr 0, .retAddr 0] [] 4 0 μ (106 + al) (7429 + 5 * al) (fun r _ => r = some (.int (nI 1))) := by
  obtain ⟨al, h1, h2⟩ := l_law (G := G) hL (zL G / 5) 0 A09 (by omega) (by omega)
  refine ⟨al, by omega, fun μ => ?_⟩
  refine z_new (pc' := 3) 0 rfl rfl w_Lw_7 (by omega) (by omega) ?_
  refine z_dup rfl (pc' := 4) 1 rfl rfl ?_
  refine z_callI (pc' := 7) 2 rfl rfl k_Lw_9 (show zMet G 3 M_Wb_init [.ref 4] 5 15 _ 88 1917 _ from c_Wb_init (u := 15) zu_s) (by decide) (by omega) (by omega) rfl rfl (Nat.le_of_ble_eq_true rfl) (fun r4 μ4 h4 => ?_)
  obtain ⟨y0, y1, y2⟩ := h4
  subst y0
  dsimp only [Option.toList_none, List.nil_append]
  refine z_as1 rfl rfl (pc' := 8) 3 rfl rfl ?_
  refine z_new (pc' := 11) 4 rfl rfl w_Lw_10 (by omega) (by omega) ?_
  refine z_dup rfl (pc' := 12) 5 rfl rfl ?_
  refine z_callI (pc' := 15) 6 rfl rfl k_Lw_12 (show zMet G 1 M_Mo_init [.ref 88] 89 1951 _ 106 7429 _ from c_Mo_init (u := 1951) zu_s) (by decide) (by omega) (by omega) rfl rfl (Nat.le_of_ble_eq_true rfl) (fun r12 μ12 h12 => ?_)
  obtain ⟨x0, x1, x2⟩ := h12
  subst x0
  dsimp only [Option.toList_none, List.nil_append]
  refine z_as2 rfl rfl (pc' := 16) 7 rfl rfl ?_
  refine z_iconst (v := nI 0) (by decide) (pc' := 17) 8 rfl rfl ?_
  refine z_is3 rfl rfl (pc' := 18) 9 rfl rfl ?_
  refine h2 106 7429 _ ⟨cSt_fr y1 (fun i hi => ?_), x1, Nat.le_refl _, iRp09, iRp09, Nat.zero_le _⟩
  rw [x2 i (by omega), zu_n (by omega)]
