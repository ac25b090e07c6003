/-! ===== keep, again ===== -/
def oS (S : Nat → Nat → Nat) (sc ch : Int32) : Nat → Int32 := fun i => if i = 0 then nI (S 0 0) else if i = 4 then nI (S 0 1) else if i = 9 then nI (S 0 3) else if i = 10 then sc else if i = 11 then ch else nI (S 0 2)
def kS9 (S : Nat → Nat → Nat) : Nat → Nat → Int32 := fun k j => nI (S k j)
/-- a coast at A -/
def cstA (μ : Nat → va_E) (A : Nat) : zκ → Prop
  | (S, mo, pr, fa, sc, ch, rc, D) => isCA μ A (oS S sc ch) (kS9 S) ∧ (∃ (cs : Nat) (q : Nat → Nat), isCr μ (A + 8) mo cs pr fa q) ∧ (∃ (β : Nat → Nat → Nat) (its : Nat → zI), isBk μ (A + 12) β ∧ dzB β its D ∧ β 0 0 = rc) ∧ (∃ c : Nat → Int32, μ (A + 18) = .inl (0, 6, .inl c)) ∧ iK (S, mo, pr, fa, sc, ch, rc, D)
theorem cstA_5 {μ : Nat → va_E} {κ : zκ} (h : cst μ κ) : cstA μ 5 κ := by
  obtain ⟨S, mo, pr, fa, sc, ch, rc, D⟩ := κ
  obtain ⟨⟨h0, h1, h2, h3, h4, h5, h6, h7, h8⟩, g2, g3, g4, g5⟩ := h
  exact ⟨⟨h0, h1, h2, h3, h4, h5, h6, h7, h8⟩, g2, g3, g4, g5⟩
theorem cst_A5 {μ : Nat → va_E} {κ : zκ} (h : cstA μ 5 κ) : cst μ κ := by
  obtain ⟨S, mo, pr, fa, sc, ch, rc, D⟩ := κ
  obtain ⟨⟨h0, h1, h2, h3, h4, h5, h6, h7, h8⟩, g2, g3, g4, g5⟩ := h
  exact ⟨⟨h0, h1, h2, h3, h4, h5, h6, h7, h8⟩, g2, g3, g4, g5⟩
theorem cstA_fr {μ μ' : Nat → va_E} {A : Nat} {κ : zκ} (h : cstA μ A κ) (hf : ∀ i, A ≤ i → i ≤ A + 18 → μ' i = μ i) : cstA μ' A κ := by
  obtain ⟨S, mo, pr, fa, sc, ch, rc, D⟩ := κ
  obtain ⟨h1, ⟨cs, q, h2⟩, ⟨β, its, h3, h3a, h3b⟩, ⟨c, h4⟩, h5⟩ := h
  exact ⟨isCA_fr h1 (fun i a b => hf i a (by omega)), ⟨cs, q, isCr_fr h2 (fun i a b => hf i (by omega) (by omega))⟩, ⟨β, its, isBk_fr h3 (fun i a b => hf i (by omega) (by omega)), h3a, h3b⟩, ⟨c, by rw [hf _ (by omega) (by omega)]; exact h4⟩, h5⟩
theorem sg_ext {c c' : Nat → Nat} : ∀ (t : zI) (b e : Nat), (∀ j, j < e → c' j = c j) → sg c b t e → sg c' b t e
  | [], _, _, _, h => h
  | (o, l, r) :: t, b, e, hc, h => by
    obtain ⟨h1, h2⟩ := h
    by_cases ho : o < 21
    · rw [if_pos ho] at h2
      have := sg_le t _ _ h2
      exact ⟨by rw [hc b (by omega)]; exact h1, by rw [if_pos ho]; exact sg_ext t _ _ hc h2⟩
    · rw [if_neg ho] at h2
      have := sg_le t _ _ h2.2.2
      exact ⟨by rw [hc b (by omega)]; exact h1, by rw [if_neg ho]; exact ⟨by rw [hc _ (by omega)]; exact h2.1, by rw [hc _ (by omega)]; exact h2.2.1, sg_ext t _ _ hc h2.2.2⟩⟩
theorem tlN_ext {β β' : Nat → Nat → Nat} {its : Nat → zI} {k : Nat} {f : Nat → Nat} (h1 : β' 1 = β 1) (h2 : β' 2 = β 2) : ∀ m r, tlN β' its k f m r = tlN β its k f m r
  | 0, _ => rfl
  | m + 1, r => by
    unfold tlN
    rw [h1, h2, tlN_ext h1 h2 m (r + 1)]
theorem bg_mono {β : Nat → Nat → Nat} {its : Nat → zI} (h : wfB β its) : ∀ m r, r + m = β 0 0 → β 3 r ≤ β 3 (β 0 0)
  | 0, r, e => by rw [show r = β 0 0 by omega]; exact Nat.le_refl _
  | m + 1, r, e => Nat.le_trans (sg_le _ _ _ (h.2 r (by omega)).1) (bg_mono h m (r + 1) (by omega))
theorem dzB_ext {β β' : Nat → Nat → Nat} {its : Nat → zI} {D : zD6} (h : dzB β its D) (h0 : β' 0 = β 0) (h1 : β' 1 = β 1) (h2 : β' 2 = β 2) (h3 : β' 3 = β 3) (h4 : ∀ j, j < β 0 1 → β' 4 j = β 4 j) : dzB β' its D := by
  obtain ⟨hw, ht, hz, hz2⟩ := h
  refine ⟨⟨by rw [h0]; exact hw.1, fun r hr => ?_⟩, fun k mo f dw h g q => ?_, by rw [h0, h3]; exact hz, by rw [h0]; exact hz2⟩
  · rw [h0] at hr
    obtain ⟨w1, w2, w3, w4, w5⟩ := hw.2 r hr
    have hm := bg_mono hw (β 0 0 - (r + 1)) (r + 1) (by omega)
    rw [h1, h2, h3]
    exact ⟨sg_ext _ _ _ (fun j hj => h4 j (by omega)) w1, w2, w3, w4, w5⟩
  · rw [h0, tlN_ext h1 h2]
    exact ht k mo f dw h g q
theorem isBk_I {μ : Nat → va_E} {b : Nat} {β : Nat → Nat → Nat} (h : isBk μ b β) : isBI μ b (nI (β 0 0)) (nI (β 0 1)) (fun j => nI (β 1 j)) (fun j => nI (β 2 j)) (fun j => nI (β 3 j)) (fun j => nI (β 4 j)) := h
theorem isBk_cp {ν : Nat → va_E} {b zs : Nat} {β β0 : Nat → Nat → Nat} : isBk (pbk ν b (nI (β 0 0)) (nI (β 0 1)) (fun j => nI (β 1 j)) (fun j => nI (β 2 j)) (fun j => nI (β 3 j)) (cpN (fun j => nI (β 4 j)) (fun j => nI (β0 4 j)) zs)) b (un β 4 (fun j => if j < zs then β 4 j else β0 4 j)) := by
  refine ⟨pbk_0, pbk_1, pbk_2, pbk_3, ?_⟩
  rw [pbk_4]
  have e : cpN (fun j => nI (β 4 j)) (fun j => nI (β0 4 j)) zs = fun j => nI (un β 4 (fun j => if j < zs then β 4 j else β0 4 j) 4 j) := by
    funext j
    rw [un_s]
    unfold cpN
    split <;> rfl
  rw [e]
theorem c_Co_copyK {G : zG} {n u : Nat} {μ : Nat → va_E} {A B : Nat} {κ κ' : zκ} (hA : cstA μ A κ') (hB : cstA μ B κ) (hab : A + 18 < B ∨ B + 18 < A) : zMet G 2 M_Co_copyFrom [.ref A, .ref B] n u μ n u (fun r μ' => r = none ∧ cstA μ' A κ ∧ ∀ i, (i < A ∨ A + 18 < i) → μ' i = μ i) := by
  obtain ⟨S, mo, pr, fa, sc, ch, rc, D⟩ := κ
  obtain ⟨S', mo', pr', fa', sc', ch', rc', D'⟩ := κ'
  obtain ⟨a1, ⟨ca, qa, a2⟩, ⟨βa, itsa, a3, a3a, a3b⟩, ⟨cca, a4⟩, a5⟩ := hA
  obtain ⟨b1, ⟨cb, qb, b2⟩, ⟨β, its, b3, b3a, b3b⟩, ⟨ccb, b4⟩, b5⟩ := hB
  have hz := b3a.2.2.2
  refine zMet_to (c_Co_copyFrom a1 b1 a2 b2 (isBk_I a3) (isBk_I b3) hz hab) (fun r μ' h => ?_)
  obtain ⟨rfl, rfl⟩ := h
  refine ⟨rfl, ⟨⟨pcA_0, pcA_1, pcA_2, pcA_3, pcA_4, pcA_5, pcA_6, pcA_7, pcA_17⟩, ⟨cb, qa, ?_⟩, ⟨un β 4 (fun j => if j < β 0 1 then β 4 j else βa 4 j), its, ?_, ?_, b3b⟩, ⟨cca, ?_⟩, b5⟩, fun i hi => ?_⟩
  · exact isCr_fr pcr_is (fun i x y => by rw [pcA_o (by omega), pbk_o (by omega)])
  · exact isBk_fr isBk_cp (fun i x y => pcA_o (by omega))
  · exact dzB_ext b3a rfl rfl rfl rfl (fun j hj => if_pos hj)
  · rw [pcA_o (by omega), pbk_o (by omega), pcr_o (by omega)]; exact a4
  · rw [pcA_o (by omega), pbk_o (by omega), pcr_o (by omega)]
set_option maxHeartbeats 4000000 in
set_option maxRecDepth 100000 in
theorem c_Wb_keep {G : zG} {n u : Nat} {μ : Nat → va_E} {κ κ' : zκ} {kp : Int32} {ac : Value} (h : cst μ κ) (hk : cstA μ 24 κ') (hob : isOb μ kp ac) : zMet G 3 M_Wb_keep [.ref 4] n u μ n u (fun r μ' => r = some (.int (nI 1)) ∧ isOb μ' (nI 1) ac ∧ cstA μ' 24 κ ∧ ∀ i, i ≠ 4 → (i < 24 ∨ 42 < i) → μ' i = μ i) := by
  have hob0 := hob
  have hc24 : ∃ fs, μ 24 = .inr (3, fs) := by
    obtain ⟨S', mo', pr', fa', sc', ch', rc', D'⟩ := κ'
    exact ⟨_, hk.1.1⟩
  obtain ⟨fs24, h24⟩ := hc24
  unfold isOb at hob
  refine z_start (lv := [.ref 4]) K_Wb_keep rfl rfl (Nat.le_refl _) (Nat.le_refl _) (Nat.le_of_ble_eq_true rfl) rfl ?_
  refine z_al0 (pc' := 1) 0 rfl rfl ?_
  refine z_getf (pc' := 4) 1 rfl rfl f_Wb_16_11 (by assumption) (by rfl) ?_
  refine z_al0 (pc' := 5) 2 rfl rfl ?_
  refine z_getf (pc' := 8) 3 rfl rfl f_Wb_10_11 (by assumption) (by rfl) ?_
  refine z_callV (pc' := 11) 4 rfl rfl k_Wb_363 (by assumption) (c_Co_copyK hk (cstA_5 h) (by omega)) (by decide) (Nat.le_refl _) (Nat.le_refl _) rfl rfl (Nat.le_of_ble_eq_true rfl) (fun r8 μ8 h8 => ?_)
  obtain ⟨y0, y1, y2⟩ := h8
  subst y0
  have hob9 := y2 4 (by decide)
  rw [hob] at hob9
  dsimp only [Option.toList_none, List.nil_append]
  refine z_al0 (pc' := 12) 5 rfl rfl ?_
  refine z_iconst (v := nI 1) (by decide) (pc' := 13) 6 rfl rfl ?_
  refine z_putf (pc' := 16) 7 rfl rfl f_Wb_366_11 (by assumption) rfl rfl (by rfl) (by rfl) ?_
  dsimp only [List.set]
  refine z_iconst (v := nI 1) (by decide) (pc' := 17) 8 rfl rfl ?_
  exact z_ireturn 9 rfl rfl (by first | rfl | exact zbo_nar) rfl rfl (by exact ⟨rfl, zu_s, cstA_fr y1 (fun i a b => zu_n (by omega)), fun i a b => by rw [zu_n a]; exact y2 i (by omega)⟩)
set_option maxHeartbeats 4000000 in
set_option maxRecDepth 100000 in
theorem c_Wb_again {G : zG} {n u : Nat} {μ : Nat → va_E} {κ κ' : zκ} {kf : Bool} {ac : Value} (h : cst μ κ) (hk : cstA μ 24 κ') (hob : isOb μ (bI kf) ac) : zMet G 3 M_Wb_again [.ref 4] n u μ n u (cK μ (if kf = true then (nI (κ'.1 0 0), κ') else (-3, κ))) := by
  have hob0 := hob
  have hc5 : ∃ fs, μ 5 = .inr (3, fs) := by
    obtain ⟨S', mo', pr', fa', sc', ch', rc', D'⟩ := κ
    exact ⟨_, h.1.1⟩
  obtain ⟨fs5, h5⟩ := hc5
  unfold isOb at hob
  refine z_start (lv := [.ref 4]) K_Wb_again rfl rfl (Nat.le_refl _) (Nat.le_refl _) (Nat.le_of_ble_eq_true rfl) rfl ?_
  refine z_al0 (pc' := 1) 0 rfl rfl ?_
  refine z_getf (pc' := 4) 1 rfl rfl f_Wb_366_11 (by assumption) (by rfl) ?_
  first | refine z_if_neB (pc' := 7) 2 rfl rfl (tgt := 10) rfl (fun h4 => ?_) (fun h4 => ?_) | refine z_if_neN (pc' := 7) 2 rfl rfl (tgt := 10) rfl (by omega) (fun h4 => ?_) (fun h4 => ?_) | refine z_if_ne (pc' := 7) 2 rfl rfl (tgt := 10) rfl (fun h4 => ?_) (fun h4 => ?_)
  · refine z_al0 (pc' := 11) 5 rfl rfl ?_
    refine z_getf (pc' := 14) 6 rfl rfl f_Wb_10_11 (by assumption) (by rfl) ?_
    refine z_al0 (pc' := 15) 7 rfl rfl ?_
    refine z_getf (pc' := 18) 8 rfl rfl f_Wb_16_11 (by assumption) (by rfl) ?_
    refine z_callV (pc' := 21) 9 rfl rfl k_Wb_363 (by assumption) (c_Co_copyK (cstA_5 h) hk (by omega)) (by decide) (Nat.le_refl _) (Nat.le_refl _) rfl rfl (Nat.le_of_ble_eq_true rfl) (fun r18 μ18 h18 => ?_)
    obtain ⟨y0, y1, y2⟩ := h18
    subst y0
    have hob9 := y2 4 (by decide)
    rw [hob] at hob9
    have y5 : ∃ fs, μ18 5 = .inr (3, .int (nI (κ'.1 0 0)) :: fs) := by
      obtain ⟨S', mo', pr', fa', sc', ch', rc', D'⟩ := κ'
      exact ⟨_, y1.1.1⟩
    obtain ⟨fs9, y5⟩ := y5
    dsimp only [Option.toList_none, List.nil_append]
    refine z_al0 (pc' := 22) 10 rfl rfl ?_
    refine z_getf (pc' := 25) 11 rfl rfl f_Wb_10_11 (by assumption) (by rfl) ?_
    refine z_getf (pc' := 28) 12 rfl rfl f_Wb_76_3 (by assumption) (by rfl) ?_
    exact z_ireturn 13 rfl rfl (by first | rfl | exact zbo_nar) rfl rfl (by rw [if_pos h4]; exact ⟨rfl, cst_A5 y1, fun i hi => y2 i (by omega)⟩)
  · refine z_bipush (v := (-3)) (by decide) (pc' := 9) 3 rfl rfl ?_
    exact z_ireturn 4 rfl rfl (by first | rfl | exact zbo_nar) rfl rfl (by rw [if_neg h4]; exact ⟨rfl, h, fun i _ => rfl⟩)
/-- the reference's kept row -/
def mkp (μ : Nat → va_E) (s : Nat → Int32) (kf : Bool) : zκ → Prop
  | (S, mo, pr, fa, sc, ch, rc, D) => s 3 = bI kf ∧ (∃ q : Nat → Int32, μ 90 = .inl (0, 618, .inl q)) ∧ (kf = true → ∃ ρ : Nat → Int32, μ 90 = .inl (0, 618, .inl (mk S mo pr fa sc ch rc ρ)) ∧ dzM ρ rc D)
set_option maxHeartbeats 4000000 in
set_option maxRecDepth 100000 in
theorem c_Mo_keep {G : zG} {n u : Nat} {μ : Nat → va_E} {κ κ' : zκ} {s : Nat → Int32} {kf : Bool} (h : mst μ s κ) (hk : mkp μ s kf κ') : zMet G 1 M_Mo_keep [.ref 88] n u μ n u (fun r μ' => r = some (.int (nI 1)) ∧ ∃ s' : Nat → Int32, (s' 5 = s 5 ∧ s' 23 = s 23 ∧ s' 32 = s 32) ∧ mst μ' s' κ ∧ mkp μ' s' true κ ∧ ∀ i, i ≠ 88 → i ≠ 90 → μ' i = μ i) := by
  obtain ⟨S, mo, pr, fa, sc, ch, rc, D⟩ := κ
  have hst := h
  obtain ⟨⟨ρ, h1, hD⟩, h2, ⟨q93, h93⟩, ⟨q91, h91⟩, ⟨q94, h94⟩, ⟨q95, h95⟩, ⟨q96, h96⟩, ⟨q97, h97⟩, h5⟩ := h
  have hk5 := h5
  obtain ⟨hi, hx, hmo, hrc⟩ := h5
  have hi0 := hi.1
  have hi1 := hi.2.1
  have hi2 := hi.2.2.1
  have hi3 := hi.2.2.2.2.1
  have h90 : ∃ q : Nat → Int32, μ 90 = .inl (0, 618, .inl q) := by
    obtain ⟨S', mo', pr', fa', sc', ch', rc', D'⟩ := κ'
    exact hk.2.1
  obtain ⟨q90, h90⟩ := h90
  have h88 := h2
  unfold mob at h88
  refine z_start (lv := [.ref 88]) K_Mo_keep rfl rfl (Nat.le_refl _) (Nat.le_refl _) (Nat.le_of_ble_eq_true rfl) rfl ?_
  refine z_al0 (pc' := 1) 0 rfl rfl ?_
  refine z_getf (pc' := 4) 1 rfl rfl f_Mo_9_12 (by first | assumption | (rw [zu_n (by decide)]; assumption)) (by rfl) ?_
  refine z_al0 (pc' := 5) 2 rfl rfl ?_
  refine z_getf (pc' := 8) 3 rfl rfl f_Mo_13_12 (by first | assumption | (rw [zu_n (by decide)]; assumption)) (by rfl) ?_
  refine z_callS0 (pc' := 11) 4 rfl rfl k_Mo_63 (c_Mo_copyAll (by decide) h1 h90) (by decide) (Nat.le_refl _) (Nat.le_refl _) rfl rfl (Nat.le_of_ble_eq_true rfl) ?_
  refine z_al0 (pc' := 12) 5 rfl rfl ?_
  refine z_iconst (v := nI 1) (by decide) (pc' := 13) 6 rfl rfl ?_
  refine z_putf (pc' := 16) 7 rfl rfl f_Mo_362_12 (by first | assumption | (rw [zu_n (by decide)]; assumption)) rfl rfl (by rfl) (by rfl) ?_
  dsimp only [List.set]
  rw [mob_3]
  refine z_iconst (v := nI 1) (by decide) (pc' := 17) 8 rfl rfl ?_
  exact z_ireturn 9 rfl rfl (by first | rfl | exact zbo_nar) rfl rfl (by refine ⟨rfl, un s 3 (nI 1), ⟨rfl, rfl, rfl⟩, ⟨⟨ρ, by rw [zu_n (by decide), zu_n (by decide)]; exact h1, hD⟩, zu_s, ⟨q93, by rw [zu_n (by decide), zu_n (by decide)]; exact h93⟩, ⟨q91, by rw [zu_n (by decide), zu_n (by decide)]; exact h91⟩, ⟨q94, by rw [zu_n (by decide), zu_n (by decide)]; exact h94⟩, ⟨q95, by rw [zu_n (by decide), zu_n (by decide)]; exact h95⟩, ⟨q96, by rw [zu_n (by decide), zu_n (by decide)]; exact h96⟩, ⟨q97, by rw [zu_n (by decide), zu_n (by decide)]; exact h97⟩, hk5⟩, ⟨rfl, ⟨_, by rw [zu_n (by decide)]; exact zu_s⟩, fun _ => ⟨ρ, by rw [zu_n (by decide)]; exact zu_s, hD⟩⟩, fun i a b => by rw [zu_n a, zu_n b]⟩)
set_option maxHeartbeats 4000000 in
set_option maxRecDepth 100000 in
theorem c_Mo_again {G : zG} {n u : Nat} {μ : Nat → va_E} {κ κ' : zκ} {s : Nat → Int32} {kf : Bool} (h : mst μ s κ) (hk : mkp μ s kf κ') (hk' : iK κ') : zMet G 1 M_Mo_again [.ref 88] n u μ n u (mK μ s (if kf = true then (nI (κ'.1 0 0), κ') else (-3, κ))) := by
  obtain ⟨S, mo, pr, fa, sc, ch, rc, D⟩ := κ
  have hst := h
  obtain ⟨⟨ρ, h1, hD⟩, h2, ⟨q93, h93⟩, ⟨q91, h91⟩, ⟨q94, h94⟩, ⟨q95, h95⟩, ⟨q96, h96⟩, ⟨q97, h97⟩, h5⟩ := h
  have hk5 := h5
  obtain ⟨hi, hx, hmo, hrc⟩ := h5
  have hi0 := hi.1
  have hi1 := hi.2.1
  have hi2 := hi.2.2.1
  have hi3 := hi.2.2.2.2.1
  obtain ⟨S', mo', pr', fa', sc', ch', rc', D'⟩ := κ'
  obtain ⟨hs3, ⟨q90, h90⟩, hkt⟩ := hk
  have h88 := h2
  unfold mob at h88
  rw [hs3] at h88
  refine z_start (lv := [.ref 88]) K_Mo_again rfl rfl (Nat.le_refl _) (Nat.le_refl _) (Nat.le_of_ble_eq_true rfl) rfl ?_
  refine z_al0 (pc' := 1) 0 rfl rfl ?_
  refine z_getf (pc' := 4) 1 rfl rfl f_Mo_362_12 (by first | assumption | exact zu_s | (rw [zu_n (by decide)]; assumption)) (by rfl) ?_
  first | refine z_if_neB (pc' := 7) 2 rfl rfl (tgt := 10) rfl (fun h4 => ?_) (fun h4 => ?_) | refine z_if_neN (pc' := 7) 2 rfl rfl (tgt := 10) rfl (by omega) (fun h4 => ?_) (fun h4 => ?_) | refine z_if_ne (pc' := 7) 2 rfl rfl (tgt := 10) rfl (fun h4 => ?_) (fun h4 => ?_)
  · obtain ⟨ρk, h90k, hDk⟩ := hkt h4
    refine z_al0 (pc' := 11) 5 rfl rfl ?_
    refine z_getf (pc' := 14) 6 rfl rfl f_Mo_13_12 (by first | assumption | exact zu_s | (rw [zu_n (by decide)]; assumption)) (by rfl) ?_
    refine z_al0 (pc' := 15) 7 rfl rfl ?_
    refine z_getf (pc' := 18) 8 rfl rfl f_Mo_9_12 (by first | assumption | exact zu_s | (rw [zu_n (by decide)]; assumption)) (by rfl) ?_
    refine z_callS0 (pc' := 21) 9 rfl rfl k_Mo_63 (c_Mo_copyAll (by decide) h90k h1) (by decide) (Nat.le_refl _) (Nat.le_refl _) rfl rfl (Nat.le_of_ble_eq_true rfl) ?_
    refine z_al0 (pc' := 22) 10 rfl rfl ?_
    refine z_getf (pc' := 25) 11 rfl rfl f_Mo_9_12 (by first | assumption | exact zu_s | (rw [zu_n (by decide)]; assumption)) (by rfl) ?_
    refine z_iconst (v := nI 3) (by decide) (pc' := 26) 12 rfl rfl ?_
    refine z_iald (pc' := 27) 13 rfl rfl (by first | assumption | exact zu_s | (rw [zu_n (by decide)]; assumption)) (by omega) (by decide) ?_
    rw [mk_3]
    exact z_ireturn 14 rfl rfl (by first | rfl | exact zbo_nar) rfl rfl (by rw [if_pos h4]; refine ⟨rfl, s, sEq_r, ⟨⟨ρk, zu_s, hDk⟩, by rw [zu_n (by decide)]; exact h2, ⟨q93, by rw [zu_n (by decide)]; exact h93⟩, ⟨q91, by rw [zu_n (by decide)]; exact h91⟩, ⟨q94, by rw [zu_n (by decide)]; exact h94⟩, ⟨q95, by rw [zu_n (by decide)]; exact h95⟩, ⟨q96, by rw [zu_n (by decide)]; exact h96⟩, ⟨q97, by rw [zu_n (by decide)]; exact h97⟩, hk'⟩, fun i a => zu_n (by omega)⟩)
  · refine z_bipush (v := (-3)) (by decide) (pc' := 9) 3 rfl rfl ?_
    exact z_ireturn 4 rfl rfl (by first | rfl | exact zbo_nar) rfl rfl (by rw [if_neg h4]; exact ⟨rfl, s, sEq_r, hst, fun i _ => rfl⟩)
