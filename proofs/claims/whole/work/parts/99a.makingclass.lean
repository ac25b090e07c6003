/-! ===== the two objects as they are made ===== -/
def S09 : Nat → Nat → Nat := fun k j => if k = 0 ∧ j = 3 then 12 else 0
def κ09 : zκ := (S09, 0, z9, z9, 0, nI 1, 0, fun _ _ _ _ _ _ => 0)
def τ09 : zτ := (fun j => if j < 4 then 0 else 1, z9, fun _ => 0)
def σ09 : zσ := fun j => (if j < 4 then 2 else 0, 0, 0)
def A09 : zAll := ((κ09, κ09, false), τ09, σ09, (0, fun _ => 0), (z9, 0, z9), (0, fun _ => 0))
theorem S09_0 {k j : Nat} (hk : k ≠ 0) : S09 k j = 0 := if_neg (fun h => hk h.1)
theorem kS09 {k : Nat} (hk : k ≠ 0) : kS9 S09 k = fun _ => 0 := by
  funext j
  show nI (S09 k j) = 0
  rw [S09_0 hk]
  rfl
theorem iS09 : iS S09 := by
  refine ⟨by decide, by decide, by decide, by decide, by decide, fun j => ?_⟩
  rw [S09_0 (by decide), S09_0 (by decide), S09_0 (by decide), S09_0 (by decide), S09_0 (by decide), S09_0 (by decide), S09_0 (by decide), S09_0 (by decide)]
  exact ⟨by decide, by decide, by decide, by decide, by decide, by decide, by decide, by decide, fun h => absurd h (Nat.not_lt_zero _)⟩
theorem iK09 : iK κ09 := ⟨iS09, fun j => ⟨Nat.zero_le _, Nat.zero_le _, fun h => absurd h (Nat.not_lt_zero _)⟩, Nat.zero_le _, Nat.zero_le _⟩
theorem dzB09 : dzB (fun _ _ => 0) (fun _ => []) (fun _ _ _ _ _ _ => 0) := ⟨⟨Nat.zero_le _, fun r h => absurd h (Nat.not_lt_zero _)⟩, fun k mo f dw h g q => rfl, Nat.le_refl _, Nat.zero_le _⟩
theorem dzM09 {ρ : Nat → Int32} : dzM ρ 0 (fun _ _ _ _ _ _ => 0) := ⟨fun _ _ => 0, fun _ => [], ⟨rfl, Nat.zero_le _, fun r h => absurd h (Nat.not_lt_zero _)⟩, fun k mo f dw h g => rfl, fun k mo f dw h g => Nat.zero_le _⟩
theorem iRp09 : iRp S09 := fun r h => absurd h (Nat.not_lt_zero _)
set_option maxRecDepth 100000 in
theorem cstA09 {μ : Nat → va_E} {A : Nat} (h0 : μ A = .inr (3, [.int 0, .ref (A + 1), .ref (A + 1 + 1), .ref (A + 1 + 2), .int 0, .ref (A + 1 + 3), .ref (A + 1 + 4), .ref (A + 1 + 5), .ref (A + 1 + 6), .int (nI 12), .int 0, .int (nI 1), .ref (A + 1 + 7), .ref (A + 1 + 11), .int 0, .ref (A + 1 + 16), .ref (A + 1 + 17)])) (hF : ∀ j, j < 18 → μ (A + 1 + j) = (fun j => if j < 7 then .inl (0, 6, .inl (fun _ => 0)) else if j = 7 then .inr (4, [.int 0, .ref (A + 1 + 8), .ref (A + 1 + 9), .int 0, .ref (A + 1 + 10)]) else if j < 10 then .inl (0, 6, .inl (fun _ => 0)) else if j = 10 then .inl (0, 5, .inl (fun _ => 0)) else if j = 11 then .inr (0, [.int 0, .ref (A + 1 + 12), .ref (A + 1 + 13), .ref (A + 1 + 14), .ref (A + 1 + 15), .int 0]) else if j < 14 then .inl (0, 8, .inl (fun _ => 0)) else if j = 14 then .inl (0, 9, .inl (fun _ => 0)) else if j = 15 then .inl (0, 200, .inl (fun _ => 0)) else if j = 16 then .inl (0, 24, .inl (fun _ => 0)) else .inl (0, 6, .inl (fun _ => 0))) j) : cstA μ A κ09 := by
  refine ⟨⟨h0, ?_, ?_, ?_, ?_, ?_, ?_, ?_, ?_⟩, ⟨0, z9, hF 7 (by decide), hF 8 (by decide), hF 9 (by decide), hF 10 (by decide)⟩, ⟨fun _ _ => 0, fun _ => [], ⟨hF 11 (by decide), hF 12 (by decide), hF 13 (by decide), hF 14 (by decide), hF 15 (by decide)⟩, dzB09, rfl⟩, ⟨fun _ => 0, hF 17 (by decide)⟩, iK09⟩
  · rw [kS09 (by decide)]; exact hF 0 (by decide)
  · rw [kS09 (by decide)]; exact hF 1 (by decide)
  · rw [kS09 (by decide)]; exact hF 2 (by decide)
  · rw [kS09 (by decide)]; exact hF 3 (by decide)
  · rw [kS09 (by decide)]; exact hF 4 (by decide)
  · rw [kS09 (by decide)]; exact hF 5 (by decide)
  · rw [kS09 (by decide)]; exact hF 6 (by decide)
  · rw [kS09 (by decide)]; exact hF 16 (by decide)
theorem isPl09 {μ0 μ : Nat → va_E} (h : mkP μ0 μ 56 57 5) : isPl μ 0 (fun _ => 0) := by
  obtain ⟨h0, h1, h2, h3, ⟨bh, h4, h5⟩, h6, -⟩ := h
  exact ⟨fun _ => 0, fun _ => 0, fun _ => 0, .null, fun _ => (0, 0, z9, z9, z9), bh, h0, h1, h2, h3, h4, h5, h6, rfl, by decide⟩
theorem isTa09 {μ : Nat → va_E} (h47 : μ 47 = .inr (9, [.int 0, .ref 48, .ref 49, .ref 50, .int 0])) (h48 : μ 48 = .inl (0, 200, .inl (fun _ => 0))) (h49 : μ 49 = .inl (0, 201, .inl (fun _ => 0))) (h50 : μ 50 = .inl (0, 201, .inl (fun _ => 0))) (h51 : μ 51 = .inr (0, [.int 0, .ref 52, .ref 53, .ref 54, .ref 55, .int 0])) (h52 : μ 52 = .inl (0, 8, .inl (fun _ => 0))) (h53 : μ 53 = .inl (0, 8, .inl (fun _ => 0))) (h54 : μ 54 = .inl (0, 9, .inl (fun _ => 0))) (h55 : μ 55 = .inl (0, 200, .inl (fun _ => 0))) : isTa μ z9 0 z9 :=
  ⟨fun _ => Nat.zero_le _, Nat.zero_le _, fun _ => ⟨Nat.zero_le _, Or.inl (Nat.zero_le _)⟩, h48, h49, ⟨z9, h50⟩, ⟨0, h47⟩, ⟨0, 0, z9, z9, z9, z9, ⟨h51, h52, h53, h54, h55⟩, rfl⟩⟩
def up4 (x : Int32) : Nat → Int32 := upd (upd (upd (upd (fun _ => 0) 0 x) 1 x) 2 x) 3 x
theorem up4_v (x : Int32) : up4 x = fun j => if j < 4 then x else 0 := by
  funext j
  unfold up4 upd
  by_cases h : j < 4
  · rw [if_pos h]
    rcases (show j = 0 ∨ j = 1 ∨ j = 2 ∨ j = 3 by omega) with e | e | e | e <;> subst e <;> rfl
  · rw [if_neg h, if_neg (by omega), if_neg (by omega), if_neg (by omega), if_neg (by omega)]
theorem hd09 : (fun j => hdI (τ09.1 j)) = up4 (-1) := by
  rw [up4_v]
  funext j
  show hdI (if j < 4 then 0 else 1) = _
  by_cases h : j < 4
  · rw [if_pos h, if_pos h]; decide
  · rw [if_neg h, if_neg h]; decide
theorem si09 : (fun j => nI (σ09 j).1) = up4 (nI 2) := by
  rw [up4_v]
  funext j
  show nI (if j < 4 then 2 else 0) = _
  by_cases h : j < 4
  · rw [if_pos h, if_pos h]
  · rw [if_neg h, if_neg h]; rfl
theorem iT09 : iT τ09 := fun j => ⟨by show (if j < 4 then 0 else 1) ≤ 5; split <;> decide, Nat.zero_le _⟩
theorem iH09 : iH σ09 (fun _ => 0) (fun _ => 0) := fun j => ⟨by show (if j < 4 then 2 else 0) ≤ 2; split <;> decide, fun _ => rfl, fun _ => ⟨rfl, rfl⟩⟩
theorem isSh09 {μ : Nat → va_E} (h1 : μ 81 = .inl (0, 4, .inl (up4 (-1)))) (h2 : μ 82 = .inl (0, 4, .inl (fun _ => 0))) (h3 : μ 83 = .inl (0, 160, .inl (fun _ => 0))) : isSh μ τ09 := ⟨by rw [hd09]; exact h1, h2, h3, iT09⟩
theorem isHe09 {μ : Nat → va_E} (h1 : μ 84 = .inl (0, 4, .inl (up4 (nI 2)))) (h2 : μ 85 = .inl (0, 4, .inl (fun _ => 0))) (h3 : μ 86 = .inl (0, 4, .inl (fun _ => 0))) : isHe μ σ09 := ⟨fun _ => 0, fun _ => 0, by rw [si09]; exact h1, h2, h3, iH09⟩
theorem fin_Wb {μ μ1 μe : Nat → va_E} (h : cstA μ1 5 κ09 ∧ cstA μ1 24 κ09 ∧ isTr μ1 ∧ isTa μ1 z9 0 z9 ∧ isPl μ1 0 (fun _ => 0)) (f1 : ∀ i, i < 4 ∨ 81 ≤ i → μ1 i = μ i) (e4 : μe 4 = .inr (11, [.ref 5, .ref 24, .int 0, .ref 43, .ref 47, .ref 51, .ref 56, .ref 81, .ref 82, .ref 83, .ref 84, .ref 85, .ref 86, .ref 87, .null])) (hf : ∀ i, i < 4 ∨ (4 < i ∧ i < 81) ∨ 88 ≤ i → μe i = μ1 i) (e81 : μe 81 = .inl (0, 4, .inl (up4 (-1)))) (e82 : μe 82 = .inl (0, 4, .inl (fun _ => 0))) (e83 : μe 83 = .inl (0, 160, .inl (fun _ => 0))) (e84 : μe 84 = .inl (0, 4, .inl (up4 (nI 2)))) (e85 : μe 85 = .inl (0, 4, .inl (fun _ => 0))) (e86 : μe 86 = .inl (0, 4, .inl (fun _ => 0))) (e87 : μe 87 = .inl (0, 30, .inl (fun _ => 0))) : cSt μe A09 ∧ ∀ i, i < 4 ∨ 88 ≤ i → μe i = μ i := by
  obtain ⟨h1, h2, h3, h4, h5⟩ := h
  refine ⟨⟨cst_A5 (cstA_fr h1 (fun i a1 a2 => hf i (by omega))), cstA_fr h2 (fun i a1 a2 => hf i (by omega)), ⟨.null, e4, Or.inl ⟨rfl, rfl⟩⟩, isTr_fr h3 (fun i a1 a2 => hf i (by omega)), isPl_fr h5 (fun i a1 a2 => hf i (by omega)), isSh09 e81 e82 e83, isHe09 e84 e85 e86, isTa_fr h4 (fun i a1 a2 => hf i (by omega)), e87⟩, fun i hi => ?_⟩
  rw [hf i (by omega), f1 i (by omega)]
set_option maxHeartbeats 4000000 in
set_option maxRecDepth 100000 in
theorem c_Wb_init {G : zG} {u : Nat} {μ : Nat → va_E} (hm : μ 4 = .inr (11, [.null, .null, .int 0, .null, .null, .null, .null, .null, .null, .null, .null, .null, .null, .null, .null])) : zMet G 3 M_Wb_init [.ref 4] 5 u μ 88 (u + 1902) (fun r μ' => r = none ∧ cSt μ' A09 ∧ ∀ i, i < 4 ∨ 88 ≤ i → μ' i = μ i) := by
  refine z_start (lv := [.ref 4]) K_Wb_init rfl rfl (by omega) (by omega) (Nat.le_of_ble_eq_true rfl) rfl ?_
  refine z_al0 (pc' := 1) 0 rfl rfl ?_
  refine z_objInit (pc' := 4) 1 rfl rfl (by decide) ko_Wb_1 ko_ins ko_cod (Nat.le_of_ble_eq_true rfl) ?_
  refine z_al0 (pc' := 5) 2 rfl rfl ?_
  refine z_new (pc' := 8) 3 rfl rfl w_Wb_7 (by omega) (by omega) ?_
  refine z_dup rfl (pc' := 9) 4 rfl rfl ?_
  refine z_callI (pc' := 12) 5 rfl rfl k_Wb_9 (show zMet G 2 M_Co_init [.ref 5] 6 _ _ 24 (u + 342) _ from c_Co_init (by decide) zu_s) (by decide) (by omega) (by omega) rfl rfl (Nat.le_of_ble_eq_true rfl) (fun r9 μ9 h9 => ?_)
  obtain ⟨y0, y1, y2, y3⟩ := h9
  subst y0
  dsimp only [Option.toList_none, List.nil_append]
  have m4 : μ9 4 = .inr (11, [.null, .null, .int 0, .null, .null, .null, .null, .null, .null, .null, .null, .null, .null, .null, .null]) := by rw [y3 4 (by decide) (by decide), zu_n (by decide)]; exact hm
  have c5 : cstA μ9 5 κ09 := cstA09 y1 y2
  have f9 : ∀ i, i < 4 ∨ 24 ≤ i → μ9 i = μ i := fun i hi => by rw [y3 i (by omega) (by omega), zu_n (by omega)]
  clear y1 y2 y3
  refine z_putF (pc' := 15) 6 rfl rfl rfl f_Wb_10_11 (by repeat (first | exact zu_s | assumption | rw [zu_n (by omega)])) rfl rfl (by rfl) (by rfl) ?_
  dsimp only [List.set]
  refine z_al0 (pc' := 16) 7 rfl rfl ?_
  refine z_new (pc' := 19) 8 rfl rfl w_Wb_7 (by omega) (by omega) ?_
  refine z_dup rfl (pc' := 20) 9 rfl rfl ?_
  refine z_callI (pc' := 23) 10 rfl rfl k_Wb_9 (show zMet G 2 M_Co_init [.ref 24] 25 _ _ 43 (u + 684) _ from c_Co_init (by decide) zu_s) (by decide) (by omega) (by omega) rfl rfl (Nat.le_of_ble_eq_true rfl) (fun r20 μ20 h20 => ?_)
  obtain ⟨y0, y1, y2, y3⟩ := h20
  subst y0
  dsimp only [Option.toList_none, List.nil_append]
  have m4 : μ20 4 = .inr (11, [.ref 5, .null, .int 0, .null, .null, .null, .null, .null, .null, .null, .null, .null, .null, .null, .null]) := by rw [y3 4 (by decide) (by decide), zu_n (by decide)]; exact zu_s
  have c5 : cstA μ20 5 κ09 := cstA_fr c5 (fun i a1 a2 => by rw [y3 i (by omega) (by omega), zu_n (by omega), zu_n (by omega)])
  have c24 : cstA μ20 24 κ09 := cstA09 y1 y2
  have f20 : ∀ i, i < 4 ∨ 43 ≤ i → μ20 i = μ i := fun i hi => by rw [y3 i (by omega) (by omega), zu_n (by omega), zu_n (by omega), f9 i (by omega)]
  clear y1 y2 y3
  refine z_putF (pc' := 26) 11 rfl rfl rfl f_Wb_16_11 (by repeat (first | exact zu_s | assumption | rw [zu_n (by omega)])) rfl rfl (by rfl) (by rfl) ?_
  dsimp only [List.set]
  refine z_al0 (pc' := 27) 12 rfl rfl ?_
  refine z_new (pc' := 30) 13 rfl rfl w_Wb_19 (by omega) (by omega) ?_
  refine z_dup rfl (pc' := 31) 14 rfl rfl ?_
  refine z_callI (pc' := 34) 15 rfl rfl k_Wb_21 (show zMet G 1 M_Cr_init [.ref 43] 44 _ _ 47 (u + 706) _ from c_Cr_init (by decide) zu_s) (by decide) (by omega) (by omega) rfl rfl (Nat.le_of_ble_eq_true rfl) (fun r31 μ31 h31 => ?_)
  obtain ⟨y0, y1, y2, y3⟩ := h31
  subst y0
  dsimp only [Option.toList_none, List.nil_append]
  have m4 : μ31 4 = .inr (11, [.ref 5, .ref 24, .int 0, .null, .null, .null, .null, .null, .null, .null, .null, .null, .null, .null, .null]) := by rw [y3 4 (by decide) (by decide), zu_n (by decide)]; exact zu_s
  have g31 : ∀ i, 5 ≤ i → i ≤ 42 → μ31 i = μ20 i := fun i a1 a2 => by rw [y3 i (by omega) (by omega), zu_n (by omega), zu_n (by omega)]
  have t43 : isTr μ31 := ⟨0, 0, z9, z9, z9, y1, y2 0 (by decide), y2 1 (by decide), y2 2 (by decide)⟩
  have f31 : ∀ i, i < 4 ∨ 47 ≤ i → μ31 i = μ i := fun i hi => by rw [y3 i (by omega) (by omega), zu_n (by omega), zu_n (by omega), f20 i (by omega)]
  clear y1 y2 y3
  refine z_putF (pc' := 37) 16 rfl rfl rfl f_Wb_22_11 (by repeat (first | exact zu_s | assumption | rw [zu_n (by omega)])) rfl rfl (by rfl) (by rfl) ?_
  dsimp only [List.set]
  refine z_al0 (pc' := 38) 17 rfl rfl ?_
  refine z_new (pc' := 41) 18 rfl rfl w_Wb_26 (by omega) (by omega) ?_
  refine z_dup rfl (pc' := 42) 19 rfl rfl ?_
  refine z_callI (pc' := 45) 20 rfl rfl k_Wb_28 (show zMet G 1 M_Ta_init [.ref 47] 48 _ _ 51 (u + 1313) _ from c_Ta_init (by decide) zu_s) (by decide) (by omega) (by omega) rfl rfl (Nat.le_of_ble_eq_true rfl) (fun r42 μ42 h42 => ?_)
  obtain ⟨y0, y1, y2, y3⟩ := h42
  subst y0
  dsimp only [Option.toList_none, List.nil_append]
  have m4 : μ42 4 = .inr (11, [.ref 5, .ref 24, .int 0, .ref 43, .null, .null, .null, .null, .null, .null, .null, .null, .null, .null, .null]) := by rw [y3 4 (by decide) (by decide), zu_n (by decide)]; exact zu_s
  have g42 : ∀ i, 5 ≤ i → i ≤ 46 → μ42 i = μ31 i := fun i a1 a2 => by rw [y3 i (by omega) (by omega), zu_n (by omega), zu_n (by omega)]
  have a47 : μ42 47 = .inr (9, [.int 0, .ref 48, .ref 49, .ref 50, .int 0]) := y1
  have a48 : μ42 48 = .inl (0, 200, .inl (fun _ => 0)) := y2 0 (by decide)
  have a49 : μ42 49 = .inl (0, 201, .inl (fun _ => 0)) := y2 1 (by decide)
  have a50 : μ42 50 = .inl (0, 201, .inl (fun _ => 0)) := y2 2 (by decide)
  have f42 : ∀ i, i < 4 ∨ 51 ≤ i → μ42 i = μ i := fun i hi => by rw [y3 i (by omega) (by omega), zu_n (by omega), zu_n (by omega), f31 i (by omega)]
  clear y1 y2 y3
  refine z_putF (pc' := 48) 21 rfl rfl rfl f_Wb_29_11 (by repeat (first | exact zu_s | assumption | rw [zu_n (by omega)])) rfl rfl (by rfl) (by rfl) ?_
  dsimp only [List.set]
  refine z_al0 (pc' := 49) 22 rfl rfl ?_
  refine z_new (pc' := 52) 23 rfl rfl w_Wb_33 (by omega) (by omega) ?_
  refine z_dup rfl (pc' := 53) 24 rfl rfl ?_
  refine z_callI (pc' := 56) 25 rfl rfl k_Wb_35 (show zMet G 1 M_Bk_init [.ref 51] 52 _ _ 56 (u + 1544) _ from c_Bk_init (by decide) zu_s) (by decide) (by omega) (by omega) rfl rfl (Nat.le_of_ble_eq_true rfl) (fun r53 μ53 h53 => ?_)
  obtain ⟨y0, y1, y2, y3⟩ := h53
  subst y0
  dsimp only [Option.toList_none, List.nil_append]
  have m4 : μ53 4 = .inr (11, [.ref 5, .ref 24, .int 0, .ref 43, .ref 47, .null, .null, .null, .null, .null, .null, .null, .null, .null, .null]) := by rw [y3 4 (by decide) (by decide), zu_n (by decide)]; exact zu_s
  have g53 : ∀ i, 5 ≤ i → i ≤ 50 → μ53 i = μ42 i := fun i a1 a2 => by rw [y3 i (by omega) (by omega), zu_n (by omega), zu_n (by omega)]
  have t47 : isTa μ53 z9 0 z9 := isTa09 ((g53 47 (by decide) (by decide)).trans a47) ((g53 48 (by decide) (by decide)).trans a48) ((g53 49 (by decide) (by decide)).trans a49) ((g53 50 (by decide) (by decide)).trans a50) y1 (y2 0 (by decide)) (y2 1 (by decide)) (y2 2 (by decide)) (y2 3 (by decide))
  have f53 : ∀ i, i < 4 ∨ 56 ≤ i → μ53 i = μ i := fun i hi => by rw [y3 i (by omega) (by omega), zu_n (by omega), zu_n (by omega), f42 i (by omega)]
  clear y1 y2 y3
  refine z_putF (pc' := 59) 26 rfl rfl rfl f_Wb_36_11 (by repeat (first | exact zu_s | assumption | rw [zu_n (by omega)])) rfl rfl (by rfl) (by rfl) ?_
  dsimp only [List.set]
  refine z_al0 (pc' := 60) 27 rfl rfl ?_
  refine z_new (pc' := 63) 28 rfl rfl w_Wb_40 (by omega) (by omega) ?_
  refine z_dup rfl (pc' := 64) 29 rfl rfl ?_
  refine z_callI (pc' := 67) 30 rfl rfl k_Wb_42 (show zMet G 2 M_Pl_init [.ref 56] 57 _ _ 81 (u + 1692) _ from c_Pl_init (by decide) zu_s) (by decide) (by omega) (by omega) rfl rfl (Nat.le_of_ble_eq_true rfl) (fun r64 μ64 h64 => ?_)
  obtain ⟨y0, y1⟩ := h64
  have y3 := y1.2.2.2.2.2.2
  subst y0
  dsimp only [Option.toList_none, List.nil_append]
  have m4 : μ64 4 = .inr (11, [.ref 5, .ref 24, .int 0, .ref 43, .ref 47, .ref 51, .null, .null, .null, .null, .null, .null, .null, .null, .null]) := by rw [y3 4 (by decide) (by decide), zu_n (by decide)]; exact zu_s
  have g64 : ∀ i, 5 ≤ i → i ≤ 55 → μ64 i = μ53 i := fun i a1 a2 => by rw [y3 i (by omega) (by omega), zu_n (by omega), zu_n (by omega)]
  have t56 : isPl μ64 0 (fun _ => 0) := isPl09 y1
  have f64 : ∀ i, i < 4 ∨ 81 ≤ i → μ64 i = μ i := fun i hi => by rw [y3 i (by omega) (by omega), zu_n (by omega), zu_n (by omega), f53 i (by omega)]
  clear y1 y3
  have m09 : cstA μ64 5 κ09 ∧ cstA μ64 24 κ09 ∧ isTr μ64 ∧ isTa μ64 z9 0 z9 ∧ isPl μ64 0 (fun _ => 0) := ⟨cstA_fr c5 (fun i a1 a2 => by rw [g64 i (by omega) (by omega), g53 i (by omega) (by omega), g42 i (by omega) (by omega), g31 i (by omega) (by omega)]), cstA_fr c24 (fun i a1 a2 => by rw [g64 i (by omega) (by omega), g53 i (by omega) (by omega), g42 i (by omega) (by omega), g31 i (by omega) (by omega)]), isTr_fr t43 (fun i a1 a2 => by rw [g64 i (by omega) (by omega), g53 i (by omega) (by omega), g42 i (by omega) (by omega)]), isTa_fr t47 (fun i a1 a2 => by rw [g64 i (by omega) (by omega)]), t56⟩
  refine z_putF (pc' := 70) 31 rfl rfl rfl f_Wb_43_11 (by repeat (first | exact zu_s | assumption | rw [zu_n (by omega)])) rfl rfl (by rfl) (by rfl) ?_
  dsimp only [List.set]
  refine z_al0 (pc' := 71) 32 rfl rfl ?_
  refine z_iconst (v := nI 4) (by decide) (pc' := 72) 33 rfl rfl ?_
  refine z_newa (pc' := 74) (ty := .int) (kd := 0) (a0 := (_, .inl (fun _ => 0))) 34 rfl rfl rfl (by intro _ h; cases h) rfl ka_int (fun _ => by rfl) rfl (by decide) (by omega) (by omega) ?_
  refine z_dup rfl (pc' := 75) 35 rfl rfl ?_
  refine z_iconst (v := nI 0) (by decide) (pc' := 76) 36 rfl rfl ?_
  refine z_iconst (v := (-1)) (by decide) (pc' := 77) 37 rfl rfl ?_
  refine z_iast (pc' := 78) 38 rfl rfl (by repeat (first | exact zu_s | assumption | rw [zu_n (by omega)])) (by omega) (by decide) ?_
  refine z_dup rfl (pc' := 79) 39 rfl rfl ?_
  refine z_iconst (v := nI 1) (by decide) (pc' := 80) 40 rfl rfl ?_
  refine z_iconst (v := (-1)) (by decide) (pc' := 81) 41 rfl rfl ?_
  refine z_iast (pc' := 82) 42 rfl rfl (by repeat (first | exact zu_s | assumption | rw [zu_n (by omega)])) (by omega) (by decide) ?_
  refine z_dup rfl (pc' := 83) 43 rfl rfl ?_
  refine z_iconst (v := nI 2) (by decide) (pc' := 84) 44 rfl rfl ?_
  refine z_iconst (v := (-1)) (by decide) (pc' := 85) 45 rfl rfl ?_
  refine z_iast (pc' := 86) 46 rfl rfl (by repeat (first | exact zu_s | assumption | rw [zu_n (by omega)])) (by omega) (by decide) ?_
  refine z_dup rfl (pc' := 87) 47 rfl rfl ?_
  refine z_iconst (v := nI 3) (by decide) (pc' := 88) 48 rfl rfl ?_
  refine z_iconst (v := (-1)) (by decide) (pc' := 89) 49 rfl rfl ?_
  refine z_iast (pc' := 90) 50 rfl rfl (by repeat (first | exact zu_s | assumption | rw [zu_n (by omega)])) (by omega) (by decide) ?_
  refine z_putF (pc' := 93) 51 rfl rfl rfl f_Wb_47_11 (by repeat (first | exact zu_s | assumption | rw [zu_n (by omega)])) rfl rfl (by rfl) (by rfl) ?_
  dsimp only [List.set]
  refine z_al0 (pc' := 94) 52 rfl rfl ?_
  refine z_iconst (v := nI 4) (by decide) (pc' := 95) 53 rfl rfl ?_
  refine z_newa (pc' := 97) (ty := .int) (kd := 0) (a0 := (_, .inl (fun _ => 0))) 54 rfl rfl rfl (by intro _ h; cases h) rfl ka_int (fun _ => by rfl) rfl (by decide) (by omega) (by omega) ?_
  refine z_putF (pc' := 100) 55 rfl rfl rfl f_Wb_51_11 (by repeat (first | exact zu_s | assumption | rw [zu_n (by omega)])) rfl rfl (by rfl) (by rfl) ?_
  dsimp only [List.set]
  refine z_al0 (pc' := 101) 56 rfl rfl ?_
  refine z_sipush (v := nI 160) (by decide) (pc' := 104) 57 rfl rfl ?_
  refine z_newa (pc' := 106) (ty := .int) (kd := 0) (a0 := (_, .inl (fun _ => 0))) 58 rfl rfl rfl (by intro _ h; cases h) rfl ka_int (fun _ => by rfl) rfl (by decide) (by omega) (by omega) ?_
  refine z_putF (pc' := 109) 59 rfl rfl rfl f_Wb_54_11 (by repeat (first | exact zu_s | assumption | rw [zu_n (by omega)])) rfl rfl (by rfl) (by rfl) ?_
  dsimp only [List.set]
  refine z_al0 (pc' := 110) 60 rfl rfl ?_
  refine z_iconst (v := nI 4) (by decide) (pc' := 111) 61 rfl rfl ?_
  refine z_newa (pc' := 113) (ty := .int) (kd := 0) (a0 := (_, .inl (fun _ => 0))) 62 rfl rfl rfl (by intro _ h; cases h) rfl ka_int (fun _ => by rfl) rfl (by decide) (by omega) (by omega) ?_
  refine z_dup rfl (pc' := 114) 63 rfl rfl ?_
  refine z_iconst (v := nI 0) (by decide) (pc' := 115) 64 rfl rfl ?_
  refine z_iconst (v := nI 2) (by decide) (pc' := 116) 65 rfl rfl ?_
  refine z_iast (pc' := 117) 66 rfl rfl (by repeat (first | exact zu_s | assumption | rw [zu_n (by omega)])) (by omega) (by decide) ?_
  refine z_dup rfl (pc' := 118) 67 rfl rfl ?_
  refine z_iconst (v := nI 1) (by decide) (pc' := 119) 68 rfl rfl ?_
  refine z_iconst (v := nI 2) (by decide) (pc' := 120) 69 rfl rfl ?_
  refine z_iast (pc' := 121) 70 rfl rfl (by repeat (first | exact zu_s | assumption | rw [zu_n (by omega)])) (by omega) (by decide) ?_
  refine z_dup rfl (pc' := 122) 71 rfl rfl ?_
  refine z_iconst (v := nI 2) (by decide) (pc' := 123) 72 rfl rfl ?_
  refine z_iconst (v := nI 2) (by decide) (pc' := 124) 73 rfl rfl ?_
  refine z_iast (pc' := 125) 74 rfl rfl (by repeat (first | exact zu_s | assumption | rw [zu_n (by omega)])) (by omega) (by decide) ?_
  refine z_dup rfl (pc' := 126) 75 rfl rfl ?_
  refine z_iconst (v := nI 3) (by decide) (pc' := 127) 76 rfl rfl ?_
  refine z_iconst (v := nI 2) (by decide) (pc' := 128) 77 rfl rfl ?_
  refine z_iast (pc' := 129) 78 rfl rfl (by repeat (first | exact zu_s | assumption | rw [zu_n (by omega)])) (by omega) (by decide) ?_
  refine z_putF (pc' := 132) 79 rfl rfl rfl f_Wb_57_11 (by repeat (first | exact zu_s | assumption | rw [zu_n (by omega)])) rfl rfl (by rfl) (by rfl) ?_
  dsimp only [List.set]
  refine z_al0 (pc' := 133) 80 rfl rfl ?_
  refine z_iconst (v := nI 4) (by decide) (pc' := 134) 81 rfl rfl ?_
  refine z_newa (pc' := 136) (ty := .int) (kd := 0) (a0 := (_, .inl (fun _ => 0))) 82 rfl rfl rfl (by intro _ h; cases h) rfl ka_int (fun _ => by rfl) rfl (by decide) (by omega) (by omega) ?_
  refine z_putF (pc' := 139) 83 rfl rfl rfl f_Wb_60_11 (by repeat (first | exact zu_s | assumption | rw [zu_n (by omega)])) rfl rfl (by rfl) (by rfl) ?_
  dsimp only [List.set]
  refine z_al0 (pc' := 140) 84 rfl rfl ?_
  refine z_iconst (v := nI 4) (by decide) (pc' := 141) 85 rfl rfl ?_
  refine z_newa (pc' := 143) (ty := .int) (kd := 0) (a0 := (_, .inl (fun _ => 0))) 86 rfl rfl rfl (by intro _ h; cases h) rfl ka_int (fun _ => by rfl) rfl (by decide) (by omega) (by omega) ?_
  refine z_putF (pc' := 146) 87 rfl rfl rfl f_Wb_63_11 (by repeat (first | exact zu_s | assumption | rw [zu_n (by omega)])) rfl rfl (by rfl) (by rfl) ?_
  dsimp only [List.set]
  refine z_al0 (pc' := 147) 88 rfl rfl ?_
  refine z_bipush (v := nI 30) (by decide) (pc' := 149) 89 rfl rfl ?_
  refine z_newa (pc' := 151) (ty := .int) (kd := 0) (a0 := (_, .inl (fun _ => 0))) 90 rfl rfl rfl (by intro _ h; cases h) rfl ka_int (fun _ => by rfl) rfl (by decide) (by omega) (by omega) ?_
  refine z_putF (pc' := 154) 91 rfl rfl rfl f_Wb_66_11 (by repeat (first | exact zu_s | assumption | rw [zu_n (by omega)])) rfl rfl (by rfl) (by rfl) ?_
  dsimp only [List.set]
  refine z_return 92 rfl rfl (by omega) (by omega) ⟨rfl, ?_⟩
  refine fin_Wb (μ := μ) (μ1 := μ64) m09 f64 zu_s ?_ ?_ ?_ ?_ ?_ ?_ ?_ ?_
  · intro i hi; (repeat (rw [zu_n (by omega)]))
  · (repeat (first | exact zu_s | rw [zu_n (by decide)]))
  · (repeat (first | exact zu_s | rw [zu_n (by decide)]))
  · (repeat (first | exact zu_s | rw [zu_n (by decide)]))
  · (repeat (first | exact zu_s | rw [zu_n (by decide)]))
  · (repeat (first | exact zu_s | rw [zu_n (by decide)]))
  · (repeat (first | exact zu_s | rw [zu_n (by decide)]))
  · (repeat (first | exact zu_s | rw [zu_n (by decide)]))
