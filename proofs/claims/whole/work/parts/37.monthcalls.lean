theorem hdI_s (M : Nat) : hdI (M + 1) = nI M := by
  unfold hdI
  rw [pk_sub (by omega)]
  rfl
theorem le_hd {a M : Nat} (ha : a < 2 ^ 30) (hM : M < 2 ^ 30) : nI a ≤ hdI M ↔ a + 1 ≤ M := by
  unfold hdI
  rw [Int32.le_iff_toInt_le, pk_sub_toInt hM (by decide), nI_toInt (by omega)]
  omega
def f_pass : zκ → Nat → Int32 × zκ
  | (S, mo, pr, fa, sc, ch, rc, D), act => (nI (mon S D mo act pr fa).2.2.2.2, (S, mo + 1, (mon S D mo act pr fa).1, (mon S D mo act pr fa).2.1, sc + nI (mon S D mo act pr fa).2.2.2.2, ch, rc, D))
def f_month : zκ → Int32 × zκ
  | (S, mo, pr, fa, sc, ch, rc, D) => if S 0 3 ≤ mo then (-4, (S, mo, pr, fa, sc, ch, rc, D)) else f_pass (S, mo, pr, fa, sc, ch, rc, D) 0
def f_on : zκ → Int32 → Int32 × zκ
  | (S, mo, pr, fa, sc, ch, rc, D), x => (if nI 0 ≤ x ∧ x ≤ nI 16 then nI (rsA S D (min (tN x) (S 0 3 - mo)) 0 (mo, pr, fa)) else -1, (S, mo, pr, fa, sc, ch, rc, D))
def f_courted : zκ → Int32 → Int32 × zκ
  | (S, mo, pr, fa, sc, ch, rc, D), x => (if 0 ≤ x ∧ x < nI (S 0 0) then nI (crA S D (tN x) (S 0 3 - mo) 0 (mo, pr, fa)) else -1, (S, mo, pr, fa, sc, ch, rc, D))
def f_breaks : zκ → Int32 → Int32 × zκ
  | (S, mo, pr, fa, sc, ch, rc, D), x => (if 0 ≤ x ∧ x < nI (S 0 0) then (if pr (tN x) = 6 then -3 else bkA S D (tN x) (pr (tN x)) (S 0 3 - mo) (mo, pr, fa)) else -1, (S, mo, pr, fa, sc, ch, rc, D))
def wk (S : Nat → Nat → Nat) (k : Nat) : Nat := if k < S 0 1 then k else 6
def wvl (S : Nat → Nat → Nat) (D : zD6) (t : zT3) (g k : Nat) : Nat := rsA S D (S 0 3 - t.1) 0 (t.1, un t.2.1 g (wk S k), un t.2.2 g (S 3 g))
def bwN (S : Nat → Nat → Nat) (D : zD6) (t : zT3) (g : Nat) : Nat → Nat × Nat
  | 0 => (6, 0)
  | k + 1 => if wvl S D t g k + 1 ≤ (bwN S D t g k).2 then bwN S D t g k else (wk S k, wvl S D t g k + 1)
def f_windFor : zκ → Int32 → Int32 × zκ
  | (S, mo, pr, fa, sc, ch, rc, D), x => (if 0 ≤ x ∧ x < nI (S 0 0) then nI (bwN S D (mo, pr, fa) (tN x) (S 0 1 + 1)).1 else -1, (S, mo, pr, fa, sc, ch, rc, D))
def dvl (S : Nat → Nat → Nat) (D : zD6) (t : zT3) (g k : Nat) : Nat := rsA (un S 3 (un (S 3) g k)) D (S 0 3 - t.1) 0 (t.1, t.2.1, un t.2.2 g k)
def bdN (S : Nat → Nat → Nat) (D : zD6) (t : zT3) (g b : Nat) : Nat → Nat × Nat
  | 0 => (b, 0)
  | k + 1 => if dvl S D t g (k + 1) + 1 ≤ (bdN S D t g b k).2 then bdN S D t g b k else (k + 1, dvl S D t g (k + 1) + 1)
theorem bdN_b {S : Nat → Nat → Nat} {D : zD6} {t : zT3} {g b c : Nat} : ∀ k, bdN S D t g b (k + 1) = bdN S D t g c (k + 1)
  | 0 => by
    have h1 : ∀ b, ¬ (dvl S D t g (0 + 1) + 1 ≤ (bdN S D t g b 0).2) := fun b => Nat.not_succ_le_zero _
    unfold bdN
    rw [if_neg (h1 b), if_neg (h1 c)]
  | k + 1 => by
    unfold bdN
    rw [bdN_b k]
def f_dowryFor : zκ → Int32 → Int32 × zκ
  | (S, mo, pr, fa, sc, ch, rc, D), x => (if 0 ≤ x ∧ x < nI (S 0 0) then nI (bdN S D (mo, pr, fa) (tN x) 0 9).1 else -1, (S, mo, pr, fa, sc, ch, rc, D))
theorem wvl_lt {S : Nat → Nat → Nat} (hi : iS S) {D : zD6} {t : zT3} {g k : Nat} : wvl S D t g k < 2000 := by
  have h := rsA_le hi (D := D) (S 0 3 - t.1) 0 (t.1, un t.2.1 g (wk S k), un t.2.2 g (S 3 g))
  have h3 := hi.2.2.2.2.1
  unfold wvl
  omega
theorem bwN_lt {S : Nat → Nat → Nat} (hi : iS S) {D : zD6} {t : zT3} {g : Nat} : ∀ k, (bwN S D t g k).2 ≤ 2000 ∧ (bwN S D t g k).1 ≤ 6
  | 0 => ⟨Nat.zero_le _, Nat.le_refl _⟩
  | k + 1 => by
    have ih := bwN_lt hi (D := D) (t := t) (g := g) k
    have h := wvl_lt hi (D := D) (t := t) (g := g) (k := k)
    have h1 := hi.2.1
    unfold bwN
    split
    · exact ih
    · refine ⟨h, ?_⟩
      show wk S k ≤ 6
      unfold wk
      split <;> omega
theorem dvl_lt {S : Nat → Nat → Nat} (hi : iS S) {D : zD6} {t : zT3} {g k : Nat} (hk : 1 ≤ k ∧ k ≤ 9) : dvl S D t g k < 2000 := by
  have h := rsA_le (iS_3 (g := g) hi hk) (D := D) (S 0 3 - t.1) 0 (t.1, t.2.1, un t.2.2 g k)
  have h3 := hi.2.2.2.2.1
  unfold dvl
  omega
theorem bdN_lt {S : Nat → Nat → Nat} (hi : iS S) {D : zD6} {t : zT3} {g b : Nat} (hb : b ≤ 9) : ∀ k, k ≤ 9 → (bdN S D t g b k).2 ≤ 2000 ∧ (bdN S D t g b k).1 ≤ 9
  | 0, _ => ⟨Nat.zero_le _, hb⟩
  | k + 1, hk => by
    have ih := bdN_lt hi (D := D) (t := t) (g := g) hb k (by omega)
    have h := dvl_lt hi (D := D) (t := t) (g := g) (k := k + 1) (by omega)
    unfold bdN
    split
    · exact ih
    · exact ⟨h, by show k + 1 ≤ 9; omega⟩
theorem iX_fd {S : Nat → Nat → Nat} {pr fa : Nat → Nat} (hx : iX S pr fa) {g d : Nat} (hd : 1 ≤ d ∧ d ≤ 9) : iX S pr (un fa g d) := by
  intro j
  obtain ⟨b1, b2, b3⟩ := hx j
  unfold un
  by_cases e : j = g
  · rw [if_pos e]; exact ⟨b1, hd.2, fun h => ⟨hd.1, (b3 h).2⟩⟩
  · rw [if_neg e]; exact ⟨b1, b2, b3⟩
theorem sEq14 {s : Nat → Int32} {v : Int32} : sEq s (un s 14 v) := ⟨rfl, rfl, rfl, rfl⟩
theorem isCo_pcr43 {ν : Nat → va_E} {S : Nat → Nat → Nat} {sc ch : Int32} {mo cs : Nat} {pr fa q : Nat → Nat} {mt ct : Nat} {pt ft qt : Nat → Nat} : isCo (pcr (pcc ν S sc ch mo cs pr fa q) 43 mt ct pt ft qt) S sc ch := isCo_fr isCo_pcc (fun i hi => pcr_o (by omega))
set_option maxHeartbeats 4000000 in
set_option maxRecDepth 100000 in
theorem c_Wb_passMonth {G : zG} {n u : Nat} {ν : Nat → va_E} {S : Nat → Nat → Nat} {sc ch : Int32} {mo cs : Nat} {pr fa q : Nat → Nat} {kp : Int32} {ac : Value} {β : Nat → Nat → Nat} {its : Nat → zI} {D : zD6} (hob : isOb ν kp ac) (hi : iS S) (hbk : isBk ν 17 β) (hD : dzB β its D) {act : Nat} (hm : mo ≤ 16) (hact : act < 2 ^ 31) (hx : iX S pr fa) : zMet G 5 M_Wb_passMonth [.ref 4, .int (nI act)] n u (pcc ν S sc ch mo cs pr fa q) n u (zS (some (.int (nI (mon S D mo act pr fa).2.2.2.2))) (fun z : Nat → Nat => pcc ν S (sc + nI (mon S D mo act pr fa).2.2.2.2) ch (mo + 1) (mon S D mo act pr fa).2.2.2.1 (mon S D mo act pr fa).1 (mon S D mo act pr fa).2.1 z)) := by
  unfold isOb at hob
  refine z_start (lv := [.ref 4, .int (nI act), .retAddr 0]) K_Wb_passMonth rfl rfl (Nat.le_refl _) (Nat.le_refl _) (Nat.le_of_ble_eq_true rfl) rfl ?_
  refine z_al0 (pc' := 1) 0 rfl rfl ?_
  refine z_getf (pc' := 4) 1 rfl rfl f_Wb_10_11 (by first | exact pcc_5 | exact pcc_6 | exact pcc_7 | exact pcc_8 | exact pcc_9 | exact pcc_10 | exact pcc_11 | exact pcc_12 | exact pcc_13 | exact pcc_14 | exact pcc_15 | exact pcc_22 | (rw [pcc_o (by decide)]; assumption)) (by rfl) ?_
  refine z_getr (pc' := 7) 2 rfl rfl f_Wb_97_3 (by first | exact pcc_5 | exact pcc_6 | exact pcc_7 | exact pcc_8 | exact pcc_9 | exact pcc_10 | exact pcc_11 | exact pcc_12 | exact pcc_13 | exact pcc_14 | exact pcc_15 | exact pcc_22 | (rw [pcc_o (by decide)]; assumption)) (by rfl) ?_
  refine z_al0 (pc' := 8) 3 rfl rfl ?_
  refine z_getf (pc' := 11) 4 rfl rfl f_Wb_10_11 (by first | exact pcc_5 | exact pcc_6 | exact pcc_7 | exact pcc_8 | exact pcc_9 | exact pcc_10 | exact pcc_11 | exact pcc_12 | exact pcc_13 | exact pcc_14 | exact pcc_15 | exact pcc_22 | (rw [pcc_o (by decide)]; assumption)) (by rfl) ?_
  refine z_il1 (pc' := 12) 5 rfl rfl ?_
  refine z_callVX1 (pc' := 15) 6 rfl rfl k_Wb_181 (by first | exact pcc_5 | exact pcc_6 | exact pcc_7 | exact pcc_8 | exact pcc_9 | exact pcc_10 | exact pcc_11 | exact pcc_12 | exact pcc_13 | exact pcc_14 | exact pcc_15 | exact pcc_22 | (rw [pcc_o (by decide)]; assumption)) (c_passesC hi hbk hD hm hact hx) (by decide) (Nat.le_refl _) (Nat.le_refl _) rfl rfl (Nat.le_of_ble_eq_true rfl) (fun q12 => ?_)
  refine z_is2 rfl rfl (pc' := 16) 7 rfl rfl ?_
  refine z_al0 (pc' := 17) 8 rfl rfl ?_
  refine z_getf (pc' := 20) 9 rfl rfl f_Wb_10_11 (by first | exact pcc_5 | exact pcc_6 | exact pcc_7 | exact pcc_8 | exact pcc_9 | exact pcc_10 | exact pcc_11 | exact pcc_12 | exact pcc_13 | exact pcc_14 | exact pcc_15 | exact pcc_22 | (rw [pcc_o (by decide)]; assumption)) (by rfl) ?_
  refine z_dup rfl (pc' := 21) 10 rfl rfl ?_
  refine z_getf (pc' := 24) 11 rfl rfl f_Wb_152_3 (by first | exact pcc_5 | exact pcc_6 | exact pcc_7 | exact pcc_8 | exact pcc_9 | exact pcc_10 | exact pcc_11 | exact pcc_12 | exact pcc_13 | exact pcc_14 | exact pcc_15 | exact pcc_22 | (rw [pcc_o (by decide)]; assumption)) (by rfl) ?_
  refine z_il2 (pc' := 25) 12 rfl rfl ?_
  refine z_iadd (pc' := 26) 13 rfl rfl ?_
  refine z_putf (pc' := 29) 14 rfl rfl f_Wb_152_3 (by first | exact pcc_5 | exact pcc_6 | exact pcc_7 | exact pcc_8 | exact pcc_9 | exact pcc_10 | exact pcc_11 | exact pcc_12 | exact pcc_13 | exact pcc_14 | exact pcc_15 | exact pcc_22 | (rw [pcc_o (by decide)]; assumption)) rfl rfl (by rfl) (by rfl) ?_
  dsimp only [List.set]
  rw [ob5_sc, pcc_s5 (fun _ _ => rfl)]
  refine z_il2 (pc' := 30) 15 rfl rfl ?_
  exact z_ireturn 16 rfl rfl (by first | rfl | exact zbo_nar) rfl rfl (by exact ⟨rfl, q12, rfl⟩)
set_option maxHeartbeats 4000000 in
set_option maxRecDepth 100000 in
theorem c_Wb_month {G : zG} {n u : Nat} {μ : Nat → va_E} {κ : zκ} {kp : Int32} {ac : Value} (h : cst μ κ) (hob : isOb μ kp ac) :
    zMet G 6 M_Wb_month [.ref 4] n u μ n u (cK μ (f_month κ)) := by
  obtain ⟨S, mo, pr, fa, sc, ch, rc, D⟩ := κ
  have hst := h
  obtain ⟨h1, ⟨cs, q, h2⟩, ⟨β, its, h3, h3a, h3b⟩, ⟨c23, h4⟩, h5⟩ := h
  have hk5 := h5
  obtain ⟨hi, hx, hmo, hrc⟩ := h5
  have hi0 := hi.1
  have hi1 := hi.2.1
  have hi2 := hi.2.2.1
  have hi3 := hi.2.2.2.2.1
  refine z_start (lv := [.ref 4]) K_Wb_month rfl rfl (Nat.le_refl _) (Nat.le_refl _) (Nat.le_of_ble_eq_true rfl) rfl ?_
  unfold isOb at hob
  refine z_mu (pcc_id h1 h2).symm ?_
  have hob0 : isOb μ kp ac := hob
  refine z_al0 (pc' := 1) 0 rfl rfl ?_
  refine z_getf (pc' := 4) 1 rfl rfl f_Wb_10_11 (by first | exact pcc_5 | exact pcc_6 | exact pcc_7 | exact pcc_8 | exact pcc_9 | exact pcc_10 | exact pcc_11 | exact pcc_12 | exact pcc_13 | exact pcc_14 | exact pcc_15 | exact pcc_22 | (rw [pcc_o (by decide)]; assumption)) (by rfl) ?_
  refine z_callV1 (pc' := 7) 2 rfl rfl k_Wb_155 (by first | exact pcc_5 | exact pcc_6 | exact pcc_7 | exact pcc_8 | exact pcc_9 | exact pcc_10 | exact pcc_11 | exact pcc_12 | exact pcc_13 | exact pcc_14 | exact pcc_15 | exact pcc_22 | (rw [pcc_o (by decide)]; assumption)) (c_Co_isOver hi (by omega)) (by decide) (Nat.le_refl _) (Nat.le_refl _) rfl rfl (Nat.le_of_ble_eq_true rfl) ?_
  first | refine z_if_eqB (pc' := 10) 3 rfl rfl (tgt := 15) rfl (fun h7 => ?_) (fun h7 => ?_) | refine z_if_eqN (pc' := 10) 3 rfl rfl (tgt := 15) rfl (by omega) (fun h7 => ?_) (fun h7 => ?_) | refine z_if_eq (pc' := 10) 3 rfl rfl (tgt := 15) rfl (fun h7 => ?_) (fun h7 => ?_)
  · refine z_al0 (pc' := 16) 6 rfl rfl ?_
    refine z_iconst (v := nI 0) (by decide) (pc' := 17) 7 rfl rfl ?_
    refine z_callVX1 (pc' := 20) 8 rfl rfl k_Wb_177 (by first | exact pcc_5 | exact pcc_6 | exact pcc_7 | exact pcc_8 | exact pcc_9 | exact pcc_10 | exact pcc_11 | exact pcc_12 | exact pcc_13 | exact pcc_14 | exact pcc_15 | exact pcc_22 | (rw [pcc_o (by decide)]; assumption)) (c_Wb_passMonth (act := 0) hob0 hi h3 h3a (by omega) (by decide) hx) (by decide) (Nat.le_refl _) (Nat.le_refl _) rfl rfl (Nat.le_of_ble_eq_true rfl) (fun q17 => ?_)
    exact z_ireturn 9 rfl rfl (by first | rfl | exact zbo_nar) rfl rfl (by show cK μ _ _ _; rw [f_month, if_neg h7, f_pass]; exact cK_of hst rfl rfl (⟨hi, mon_ok hi hx, by show mo + 1 ≤ S 0 3; omega, hrc⟩))
  · refine z_bipush (v := (-4)) (by decide) (pc' := 12) 4 rfl rfl ?_
    refine z_goto 5 rfl (tgt := 20) rfl ?_
    exact z_ireturn 9 rfl rfl (by first | rfl | exact zbo_nar) rfl rfl (by show cK μ _ _ _; rw [f_month, if_pos h7]; exact cK_of hst rfl rfl (hk5))
set_option maxHeartbeats 4000000 in
set_option maxRecDepth 100000 in
theorem c_Mo_month {G : zG} {n u : Nat} {μ : Nat → va_E} {κ : zκ} {s : Nat → Int32} (h : mst μ s κ) :
    zMet G 6 M_Mo_month [.ref 88] n u μ n u (mK μ s (f_month κ)) := by
  obtain ⟨S, mo, pr, fa, sc, ch, rc, D⟩ := κ
  have hst := h
  obtain ⟨⟨ρ, h1, hD⟩, h2, ⟨q93, h93⟩, ⟨q91, h91⟩, ⟨q94, h94⟩, ⟨q95, h95⟩, ⟨q96, h96⟩, ⟨q97, h97⟩, h5⟩ := h
  have hk5 := h5
  obtain ⟨hi, hx, hmo, hrc⟩ := h5
  have hi0 := hi.1
  have hi1 := hi.2.1
  have hi2 := hi.2.2.1
  have hi3 := hi.2.2.2.2.1
  have hm16 : mo ≤ 16 := by omega
  refine z_start (lv := [.ref 88]) K_Mo_month rfl rfl (Nat.le_refl _) (Nat.le_refl _) (Nat.le_of_ble_eq_true rfl) rfl ?_
  refine z_mu (show μ = pm (zu (zu μ 91 (.inl (0, 618, .inl q91))) 93 (.inl (1, 100, .inl q93))) s (mk S mo pr fa sc ch rc ρ) by rw [zu_id h91, zu_id h93, pm_id h2 h1]) ?_
  refine z_al0 (pc' := 1) 0 rfl rfl ?_
  refine z_callV1 (pc' := 4) 1 rfl rfl k_Mo_124 (by first | exact pm_f | exact pm_1 | (rw [pm_o (by decide)]; first | exact zu_s | (rw [zu_n (by decide)]; first | exact zu_s | (rw [zu_n (by decide)]; assumption)))) (c_Mo_isOver hi hm16) (by decide) (Nat.le_refl _) (Nat.le_refl _) rfl rfl (Nat.le_of_ble_eq_true rfl) ?_
  first | refine z_if_eqB (pc' := 7) 2 rfl rfl (tgt := 12) rfl (fun h4 => ?_) (fun h4 => ?_) | refine z_if_eqN (pc' := 7) 2 rfl rfl (tgt := 12) rfl (by omega) (fun h4 => ?_) (fun h4 => ?_) | refine z_if_eq (pc' := 7) 2 rfl rfl (tgt := 12) rfl (fun h4 => ?_) (fun h4 => ?_)
  · refine z_al0 (pc' := 13) 5 rfl rfl ?_
    refine z_iconst (v := (-1)) (by decide) (pc' := 14) 6 rfl rfl ?_
    refine z_callVX1 (pc' := 17) 7 rfl rfl k_Mo_227 (by first | exact pm_f | exact pm_1 | (rw [pm_o (by decide)]; first | exact zu_s | (rw [zu_n (by decide)]; first | exact zu_s | (rw [zu_n (by decide)]; assumption)))) (c_Mo_goes (act := 0) hi hD hm16 (by decide) hx) (by decide) (Nat.le_refl _) (Nat.le_refl _) rfl rfl (Nat.le_of_ble_eq_true rfl) (fun q14 => ?_)
    exact z_ireturn 8 rfl rfl (by first | rfl | exact zbo_nar) rfl rfl (by show mK μ s _ _ _; rw [f_month, if_neg h4, f_pass]; exact mK_of3 hst (sEq14) hD (⟨hi, mon_ok hi hx, by show mo + 1 ≤ S 0 3; omega, hrc⟩))
  · refine z_bipush (v := (-4)) (by decide) (pc' := 9) 3 rfl rfl ?_
    refine z_goto 4 rfl (tgt := 17) rfl ?_
    exact z_ireturn 8 rfl rfl (by first | rfl | exact zbo_nar) rfl rfl (by show mK μ s _ _ _; rw [f_month, if_pos h4]; exact mK_of3 hst (sEq_r) hD (hk5))
set_option maxHeartbeats 4000000 in
set_option maxRecDepth 100000 in
theorem l_Wb_on {G : zG} {n u : Nat} {Φ : zP} {ν : Nat → va_E} {S : Nat → Nat → Nat} {sc ch : Int32} {mo cs : Nat} {pr fa q : Nat → Nat} {kp : Int32} {ac : Value} {β : Nat → Nat → Nat} {its : Nat → zI} {D : zD6} (hob : isOb ν kp ac) (hi : iS S) (hbk : isBk ν 17 β) (hD : dzB β its D) {N : Nat} (hN : N ≤ 16) : ∀ j k mt ct pt ft (qt : Nat → Nat) acc, j = min (N - k) (S 0 3 - mt) → k ≤ N → mt ≤ 16 → iX S pt ft →
    (∀ mt' ct' pt' ft' qt' i', zW G 5 M_Wb_on 73 [.ref 4, .int (nI N), .int (nI (rsA S D j acc (mt, pt, ft))), i'] [] n u (pcr (pcc ν S sc ch mo cs pr fa q) 43 mt' ct' pt' ft' qt') n u Φ) →
    zW G 5 M_Wb_on 30 [.ref 4, .int (nI N), .int (nI acc), .int (nI k)] [] n u (pcr (pcc ν S sc ch mo cs pr fa q) 43 mt ct pt ft qt) n u Φ
  | 0, k, mt, ct, pt, ft, qt, acc, e, hk, hm, hx, K => by
    have hi3 := hi.2.2.2.2.1
    unfold isOb at hob
    refine z_il3 (pc' := 31) 17 rfl rfl ?_
    refine z_il1 (pc' := 32) 18 rfl rfl ?_
    first | refine z_icmp_geN (pc' := 35) 19 rfl rfl (tgt := 73) rfl (by omega) (by omega) (fun h32 => ?_) (fun h32 => ?_) | refine z_icmp_ge (pc' := 35) 19 rfl rfl (tgt := 73) rfl (fun h32 => ?_) (fun h32 => ?_)
    · exact K _ _ _ _ _ _
    · refine z_al0 (pc' := 36) 20 rfl rfl ?_
      refine z_getf (pc' := 39) 21 rfl rfl f_Wb_22_11 (by first | exact pcr_0 | exact pcr_1 | exact pcr_2 | exact pcr_3 | (rw [pcr_o (by decide)]; first | exact pcc_5 | exact pcc_6 | exact pcc_7 | exact pcc_8 | exact pcc_9 | exact pcc_10 | exact pcc_11 | exact pcc_12 | exact pcc_13 | exact pcc_14 | exact pcc_15 | exact pcc_22 | (rw [pcc_o (by decide)]; assumption))) (by rfl) ?_
      refine z_getf (pc' := 42) 22 rfl rfl f_Wb_135_4 (by first | exact pcr_0 | exact pcr_1 | exact pcr_2 | exact pcr_3 | (rw [pcr_o (by decide)]; first | exact pcc_5 | exact pcc_6 | exact pcc_7 | exact pcc_8 | exact pcc_9 | exact pcc_10 | exact pcc_11 | exact pcc_12 | exact pcc_13 | exact pcc_14 | exact pcc_15 | exact pcc_22 | (rw [pcc_o (by decide)]; assumption))) (by rfl) ?_
      refine z_al0 (pc' := 43) 23 rfl rfl ?_
      refine z_getf (pc' := 46) 24 rfl rfl f_Wb_10_11 (by first | exact pcr_0 | exact pcr_1 | exact pcr_2 | exact pcr_3 | (rw [pcr_o (by decide)]; first | exact pcc_5 | exact pcc_6 | exact pcc_7 | exact pcc_8 | exact pcc_9 | exact pcc_10 | exact pcc_11 | exact pcc_12 | exact pcc_13 | exact pcc_14 | exact pcc_15 | exact pcc_22 | (rw [pcc_o (by decide)]; assumption))) (by rfl) ?_
      refine z_getf (pc' := 49) 25 rfl rfl f_Wb_149_3 (by first | exact pcr_0 | exact pcr_1 | exact pcr_2 | exact pcr_3 | (rw [pcr_o (by decide)]; first | exact pcc_5 | exact pcc_6 | exact pcc_7 | exact pcc_8 | exact pcc_9 | exact pcc_10 | exact pcc_11 | exact pcc_12 | exact pcc_13 | exact pcc_14 | exact pcc_15 | exact pcc_22 | (rw [pcc_o (by decide)]; assumption))) (by rfl) ?_
      first | refine z_icmp_geN (pc' := 52) 26 rfl rfl (tgt := 73) rfl (by omega) (by omega) (fun h49 => ?_) (fun h49 => ?_) | refine z_icmp_ge (pc' := 52) 26 rfl rfl (tgt := 73) rfl (fun h49 => ?_) (fun h49 => ?_)
      · exact K _ _ _ _ _ _
      · exfalso; omega
  | j + 1, k, mt, ct, pt, ft, qt, acc, e, hk, hm, hx, K => by
    have hi3 := hi.2.2.2.2.1
    have hob0 := hob
    unfold isOb at hob
    refine z_il3 (pc' := 31) 17 rfl rfl ?_
    refine z_il1 (pc' := 32) 18 rfl rfl ?_
    first | refine z_icmp_geN (pc' := 35) 19 rfl rfl (tgt := 73) rfl (by omega) (by omega) (fun h32 => ?_) (fun h32 => ?_) | refine z_icmp_ge (pc' := 35) 19 rfl rfl (tgt := 73) rfl (fun h32 => ?_) (fun h32 => ?_)
    · exfalso; omega
    · refine z_al0 (pc' := 36) 20 rfl rfl ?_
      refine z_getf (pc' := 39) 21 rfl rfl f_Wb_22_11 (by first | exact pcr_0 | exact pcr_1 | exact pcr_2 | exact pcr_3 | (rw [pcr_o (by decide)]; first | exact pcc_5 | exact pcc_6 | exact pcc_7 | exact pcc_8 | exact pcc_9 | exact pcc_10 | exact pcc_11 | exact pcc_12 | exact pcc_13 | exact pcc_14 | exact pcc_15 | exact pcc_22 | (rw [pcc_o (by decide)]; assumption))) (by rfl) ?_
      refine z_getf (pc' := 42) 22 rfl rfl f_Wb_135_4 (by first | exact pcr_0 | exact pcr_1 | exact pcr_2 | exact pcr_3 | (rw [pcr_o (by decide)]; first | exact pcc_5 | exact pcc_6 | exact pcc_7 | exact pcc_8 | exact pcc_9 | exact pcc_10 | exact pcc_11 | exact pcc_12 | exact pcc_13 | exact pcc_14 | exact pcc_15 | exact pcc_22 | (rw [pcc_o (by decide)]; assumption))) (by rfl) ?_
      refine z_al0 (pc' := 43) 23 rfl rfl ?_
      refine z_getf (pc' := 46) 24 rfl rfl f_Wb_10_11 (by first | exact pcr_0 | exact pcr_1 | exact pcr_2 | exact pcr_3 | (rw [pcr_o (by decide)]; first | exact pcc_5 | exact pcc_6 | exact pcc_7 | exact pcc_8 | exact pcc_9 | exact pcc_10 | exact pcc_11 | exact pcc_12 | exact pcc_13 | exact pcc_14 | exact pcc_15 | exact pcc_22 | (rw [pcc_o (by decide)]; assumption))) (by rfl) ?_
      refine z_getf (pc' := 49) 25 rfl rfl f_Wb_149_3 (by first | exact pcr_0 | exact pcr_1 | exact pcr_2 | exact pcr_3 | (rw [pcr_o (by decide)]; first | exact pcc_5 | exact pcc_6 | exact pcc_7 | exact pcc_8 | exact pcc_9 | exact pcc_10 | exact pcc_11 | exact pcc_12 | exact pcc_13 | exact pcc_14 | exact pcc_15 | exact pcc_22 | (rw [pcc_o (by decide)]; assumption))) (by rfl) ?_
      first | refine z_icmp_geN (pc' := 52) 26 rfl rfl (tgt := 73) rfl (by omega) (by omega) (fun h49 => ?_) (fun h49 => ?_) | refine z_icmp_ge (pc' := 52) 26 rfl rfl (tgt := 73) rfl (fun h49 => ?_) (fun h49 => ?_)
      · exfalso; omega
      · refine z_il2 (pc' := 53) 27 rfl rfl ?_
        refine z_al0 (pc' := 54) 28 rfl rfl ?_
        refine z_getf (pc' := 57) 29 rfl rfl f_Wb_22_11 (by first | exact pcr_0 | exact pcr_1 | exact pcr_2 | exact pcr_3 | (rw [pcr_o (by decide)]; first | exact pcc_5 | exact pcc_6 | exact pcc_7 | exact pcc_8 | exact pcc_9 | exact pcc_10 | exact pcc_11 | exact pcc_12 | exact pcc_13 | exact pcc_14 | exact pcc_15 | exact pcc_22 | (rw [pcc_o (by decide)]; assumption))) (by rfl) ?_
        refine z_al0 (pc' := 58) 30 rfl rfl ?_
        refine z_getf (pc' := 61) 31 rfl rfl f_Wb_10_11 (by first | exact pcr_0 | exact pcr_1 | exact pcr_2 | exact pcr_3 | (rw [pcr_o (by decide)]; first | exact pcc_5 | exact pcc_6 | exact pcc_7 | exact pcc_8 | exact pcc_9 | exact pcc_10 | exact pcc_11 | exact pcc_12 | exact pcc_13 | exact pcc_14 | exact pcc_15 | exact pcc_22 | (rw [pcc_o (by decide)]; assumption))) (by rfl) ?_
        refine z_iconst (v := nI 0) (by decide) (pc' := 62) 32 rfl rfl ?_
        refine z_callVX1 (pc' := 65) 33 rfl rfl k_Wb_181 (by first | exact pcr_0 | exact pcr_1 | exact pcr_2 | exact pcr_3 | (rw [pcr_o (by decide)]; first | exact pcc_5 | exact pcc_6 | exact pcc_7 | exact pcc_8 | exact pcc_9 | exact pcc_10 | exact pcc_11 | exact pcc_12 | exact pcc_13 | exact pcc_14 | exact pcc_15 | exact pcc_22 | (rw [pcc_o (by decide)]; assumption))) (c_Cr_passes (act := 0) isCo_pcc hi (Or.inr (by decide)) (isBk_pcc hbk) hD hm (by decide) hx) (by decide) (Nat.le_refl _) (Nat.le_refl _) rfl rfl (Nat.le_of_ble_eq_true rfl) (fun q62 => ?_)
        first | refine z_iaddN (pc' := 66) 34 rfl rfl ?_ | refine z_iadd (pc' := 66) 34 rfl rfl ?_
        refine z_is2 rfl rfl (pc' := 67) 35 rfl rfl ?_
        first | refine z_inc3N rfl rfl (pc' := 70) 36 rfl rfl ?_ | refine z_inc3 rfl rfl rfl (pc' := 70) 36 rfl rfl ?_
        refine z_goto 37 rfl (tgt := 30) rfl ?_
        exact l_Wb_on hob0 hi hbk hD hN j (k + 1) (mt + 1) _ _ _ _ _ (by omega) (by omega) (by omega) (mon_ok hi hx) K
set_option maxHeartbeats 4000000 in
set_option maxRecDepth 100000 in
theorem c_Wb_on {G : zG} {n u : Nat} {μ : Nat → va_E} {κ : zκ} {kp : Int32} {ac : Value} (h : cst μ κ) (hob : isOb μ kp ac) (htr : isTr μ) (x : Int32) :
    zMet G 5 M_Wb_on [.ref 4, .int x] n u μ n u (cKt μ (f_on κ x)) := by
  obtain ⟨S, mo, pr, fa, sc, ch, rc, D⟩ := κ
  have hst := h
  obtain ⟨h1, ⟨cs, q, h2⟩, ⟨β, its, h3, h3a, h3b⟩, ⟨c23, h4⟩, h5⟩ := h
  have hk5 := h5
  obtain ⟨hi, hx, hmo, hrc⟩ := h5
  have hi0 := hi.1
  have hi1 := hi.2.1
  have hi2 := hi.2.2.1
  have hi3 := hi.2.2.2.2.1
  have hm16 : mo ≤ 16 := by omega
  refine z_start (lv := [.ref 4, .int x, .retAddr 0, .retAddr 0]) K_Wb_on rfl rfl (Nat.le_refl _) (Nat.le_refl _) (Nat.le_of_ble_eq_true rfl) rfl ?_
  have hob0 := hob
  unfold isOb at hob
  obtain ⟨mt, ct, pt, ft, qt, htr⟩ := htr
  refine z_mu (show μ = pcr (pcc μ S sc ch mo cs pr fa q) 43 mt ct pt ft qt by rw [pcc_id h1 h2, pcr_id htr]) ?_
  refine z_il1 (pc' := 1) 0 rfl rfl ?_
  refine z_iconst (v := nI 0) (by decide) (pc' := 2) 1 rfl rfl ?_
  refine z_bipush (v := nI 16) (by decide) (pc' := 4) 2 rfl rfl ?_
  refine z_callS1 (pc' := 7) 3 rfl rfl k_Wb_72 (c_Wb_within _ _ _) (by decide) (Nat.le_refl _) (Nat.le_refl _) rfl rfl (Nat.le_of_ble_eq_true rfl) ?_
  first | refine z_if_neB (pc' := 10) 4 rfl rfl (tgt := 12) rfl (fun h7 => ?_) (fun h7 => ?_) | refine z_if_neN (pc' := 10) 4 rfl rfl (tgt := 12) rfl (by omega) (fun h7 => ?_) (fun h7 => ?_) | refine z_if_ne (pc' := 10) 4 rfl rfl (tgt := 12) rfl (fun h7 => ?_) (fun h7 => ?_)
  · obtain ⟨j, hj0, hj5, rfl⟩ := z_wi h7 (by decide) (by decide)
    refine z_al0 (pc' := 13) 7 rfl rfl ?_
    refine z_getf (pc' := 16) 8 rfl rfl f_Wb_22_11 (by first | exact pcr_0 | exact pcr_1 | exact pcr_2 | exact pcr_3 | (rw [pcr_o (by decide)]; first | exact pcc_5 | exact pcc_6 | exact pcc_7 | exact pcc_8 | exact pcc_9 | exact pcc_10 | exact pcc_11 | exact pcc_12 | exact pcc_13 | exact pcc_14 | exact pcc_15 | exact pcc_22 | (rw [pcc_o (by decide)]; assumption))) (by rfl) ?_
    refine z_al0 (pc' := 17) 9 rfl rfl ?_
    refine z_getf (pc' := 20) 10 rfl rfl f_Wb_10_11 (by first | exact pcr_0 | exact pcr_1 | exact pcr_2 | exact pcr_3 | (rw [pcr_o (by decide)]; first | exact pcc_5 | exact pcc_6 | exact pcc_7 | exact pcc_8 | exact pcc_9 | exact pcc_10 | exact pcc_11 | exact pcc_12 | exact pcc_13 | exact pcc_14 | exact pcc_15 | exact pcc_22 | (rw [pcc_o (by decide)]; assumption))) (by rfl) ?_
    refine z_getr (pc' := 23) 11 rfl rfl f_Wb_97_3 (by first | exact pcr_0 | exact pcr_1 | exact pcr_2 | exact pcr_3 | (rw [pcr_o (by decide)]; first | exact pcc_5 | exact pcc_6 | exact pcc_7 | exact pcc_8 | exact pcc_9 | exact pcc_10 | exact pcc_11 | exact pcc_12 | exact pcc_13 | exact pcc_14 | exact pcc_15 | exact pcc_22 | (rw [pcc_o (by decide)]; assumption))) (by rfl) ?_
    refine z_callV0 (pc' := 26) 12 rfl rfl k_Wb_184 (by first | exact pcr_0 | exact pcr_1 | exact pcr_2 | exact pcr_3 | (rw [pcr_o (by decide)]; first | exact pcc_5 | exact pcc_6 | exact pcc_7 | exact pcc_8 | exact pcc_9 | exact pcc_10 | exact pcc_11 | exact pcc_12 | exact pcc_13 | exact pcc_14 | exact pcc_15 | exact pcc_22 | (rw [pcc_o (by decide)]; assumption))) (c_Cr_copyFrom isCr_pcc (Or.inl (by decide))) (by decide) (Nat.le_refl _) (Nat.le_refl _) rfl rfl (Nat.le_of_ble_eq_true rfl) ?_
    refine z_iconst (v := nI 0) (by decide) (pc' := 27) 13 rfl rfl ?_
    refine z_is2 rfl rfl (pc' := 28) 14 rfl rfl ?_
    refine z_iconst (v := nI 0) (by decide) (pc' := 29) 15 rfl rfl ?_
    refine z_is3 rfl rfl (pc' := 30) 16 rfl rfl ?_
    refine l_Wb_on hob0 hi h3 h3a hj5 _ 0 _ _ _ _ _ 0 rfl (Nat.zero_le _) hm16 hx (fun mt1 ct1 pt1 ft1 qt1 i1 => ?_)
    refine z_il2 (pc' := 74) 38 rfl rfl ?_
    exact z_ireturn 39 rfl rfl (by first | rfl | exact zbo_nar) rfl rfl (by show cKt μ _ _ _; rw [f_on, if_pos h7, tN_n (by omega)]; exact cKt_of hst rfl rfl (hk5))
  · refine z_iconst (v := (-1)) (by decide) (pc' := 11) 5 rfl rfl ?_
    exact z_ireturn 6 rfl rfl (by first | rfl | exact zbo_nar) rfl rfl (by show cKt μ _ _ _; rw [f_on, if_neg h7]; exact cKt_of hst rfl rfl (hk5))
set_option maxHeartbeats 4000000 in
set_option maxRecDepth 100000 in
theorem c_Mo_on {G : zG} {n u : Nat} {μ : Nat → va_E} {κ : zκ} {s : Nat → Int32} (h : mst μ s κ) (x : Int32) :
    zMet G 7 M_Mo_on [.ref 88, .int x] n u μ n u (mK μ s (f_on κ x)) := by
  obtain ⟨S, mo, pr, fa, sc, ch, rc, D⟩ := κ
  have hst := h
  obtain ⟨⟨ρ, h1, hD⟩, h2, ⟨q93, h93⟩, ⟨q91, h91⟩, ⟨q94, h94⟩, ⟨q95, h95⟩, ⟨q96, h96⟩, ⟨q97, h97⟩, h5⟩ := h
  have hk5 := h5
  obtain ⟨hi, hx, hmo, hrc⟩ := h5
  have hi0 := hi.1
  have hi1 := hi.2.1
  have hi2 := hi.2.2.1
  have hi3 := hi.2.2.2.2.1
  have hm16 : mo ≤ 16 := by omega
  refine z_start (lv := [.ref 88, .int x]) K_Mo_on rfl rfl (Nat.le_refl _) (Nat.le_refl _) (Nat.le_of_ble_eq_true rfl) rfl ?_
  refine z_mu (show μ = pm (zu (zu μ 91 (.inl (0, 618, .inl q91))) 93 (.inl (1, 100, .inl q93))) s (mk S mo pr fa sc ch rc ρ) by rw [zu_id h91, zu_id h93, pm_id h2 h1]) ?_
  refine z_il1 (pc' := 1) 0 rfl rfl ?_
  refine z_iconst (v := nI 0) (by decide) (pc' := 2) 1 rfl rfl ?_
  refine z_bipush (v := nI 16) (by decide) (pc' := 4) 2 rfl rfl ?_
  refine z_callS1 (pc' := 7) 3 rfl rfl k_Mo_67 (c_Mo_in _ _ _) (by decide) (Nat.le_refl _) (Nat.le_refl _) rfl rfl (Nat.le_of_ble_eq_true rfl) ?_
  first | refine z_if_neB (pc' := 10) 4 rfl rfl (tgt := 12) rfl (fun h7 => ?_) (fun h7 => ?_) | refine z_if_neN (pc' := 10) 4 rfl rfl (tgt := 12) rfl (by omega) (fun h7 => ?_) (fun h7 => ?_) | refine z_if_ne (pc' := 10) 4 rfl rfl (tgt := 12) rfl (fun h7 => ?_) (fun h7 => ?_)
  · obtain ⟨j, hj0, hj5, rfl⟩ := z_wi h7 (by decide) (by decide)
    refine z_al0 (pc' := 13) 7 rfl rfl ?_
    refine z_callV0 (pc' := 16) 8 rfl rfl k_Mo_194 (by first | exact pm_f | exact pm_1 | (rw [pm_o (by decide)]; first | exact zu_s | (rw [zu_n (by decide)]; first | exact zu_s | (rw [zu_n (by decide)]; assumption)))) (c_Mo_thinks) (by decide) (Nat.le_refl _) (Nat.le_refl _) rfl rfl (Nat.le_of_ble_eq_true rfl) ?_
    refine z_al0 (pc' := 17) 9 rfl rfl ?_
    refine z_il1 (pc' := 18) 10 rfl rfl ?_
    refine z_callVX1 (pc' := 21) 11 rfl rfl k_Mo_230 (by first | exact pm_f | exact pm_1 | (rw [pm_o (by decide)]; first | exact zu_s | (rw [zu_n (by decide)]; first | exact zu_s | (rw [zu_n (by decide)]; assumption)))) (c_Mo_restOf hi hD (by omega) hm16 hx) (by decide) (Nat.le_refl _) (Nat.le_refl _) rfl rfl (Nat.le_of_ble_eq_true rfl) (fun q18 => ?_)
    exact z_ireturn 12 rfl rfl (by first | rfl | exact zbo_nar) rfl rfl (by show mK μ s _ _ _; rw [f_on, if_pos h7, tN_n (by omega)]; exact mK_of3 hst (sEq14) hD (hk5))
  · refine z_iconst (v := (-1)) (by decide) (pc' := 11) 5 rfl rfl ?_
    exact z_ireturn 6 rfl rfl (by first | rfl | exact zbo_nar) rfl rfl (by show mK μ s _ _ _; rw [f_on, if_neg h7]; exact mK_of3 hst (sEq_r) hD (hk5))
set_option maxHeartbeats 4000000 in
set_option maxRecDepth 100000 in
theorem l_Wb_courted {G : zG} {n u : Nat} {Φ : zP} {ν : Nat → va_E} {S : Nat → Nat → Nat} {sc ch : Int32} {mo cs : Nat} {pr fa q : Nat → Nat} {kp : Int32} {ac : Value} {β : Nat → Nat → Nat} {its : Nat → zI} {D : zD6} (hob : isOb ν kp ac) (hi : iS S) (hbk : isBk ν 17 β) (hD : dzB β its D) {g : Nat} (hg : g < 6) : ∀ j mt ct pt ft (qt : Nat → Nat) acc, j = S 0 3 - mt → mt ≤ 16 → iX S pt ft →
    (∀ mt' ct' pt' ft' qt' i', zW G 5 M_Wb_courted 81 [.ref 4, .int (nI g), .int (nI (crA S D g j acc (mt, pt, ft))), i'] [] n u (pcr (pcc ν S sc ch mo cs pr fa q) 43 mt' ct' pt' ft' qt') n u Φ) →
    zW G 5 M_Wb_courted 37 [.ref 4, .int (nI g), .int (nI acc), .int (nI mt)] [] n u (pcr (pcc ν S sc ch mo cs pr fa q) 43 mt ct pt ft qt) n u Φ
  | 0, mt, ct, pt, ft, qt, acc, e, hm, hx, K => by
    have hi3 := hi.2.2.2.2.1
    unfold isOb at hob
    refine z_il3 (pc' := 38) 19 rfl rfl ?_
    refine z_al0 (pc' := 39) 20 rfl rfl ?_
    refine z_getf (pc' := 42) 21 rfl rfl f_Wb_10_11 (by first | exact pcr_0 | exact pcr_1 | exact pcr_2 | exact pcr_3 | (rw [pcr_o (by decide)]; first | exact pcc_5 | exact pcc_6 | exact pcc_7 | exact pcc_8 | exact pcc_9 | exact pcc_10 | exact pcc_11 | exact pcc_12 | exact pcc_13 | exact pcc_14 | exact pcc_15 | exact pcc_22 | (rw [pcc_o (by decide)]; assumption))) (by rfl) ?_
    refine z_getf (pc' := 45) 22 rfl rfl f_Wb_149_3 (by first | exact pcr_0 | exact pcr_1 | exact pcr_2 | exact pcr_3 | (rw [pcr_o (by decide)]; first | exact pcc_5 | exact pcc_6 | exact pcc_7 | exact pcc_8 | exact pcc_9 | exact pcc_10 | exact pcc_11 | exact pcc_12 | exact pcc_13 | exact pcc_14 | exact pcc_15 | exact pcc_22 | (rw [pcc_o (by decide)]; assumption))) (by rfl) ?_
    first | refine z_icmp_geN (pc' := 48) 23 rfl rfl (tgt := 81) rfl (by omega) (by omega) (fun h45 => ?_) (fun h45 => ?_) | refine z_icmp_ge (pc' := 48) 23 rfl rfl (tgt := 81) rfl (fun h45 => ?_) (fun h45 => ?_)
    · exact K _ _ _ _ _ _
    · exfalso; omega
  | j + 1, mt, ct, pt, ft, qt, acc, e, hm, hx, K => by
    have hi3 := hi.2.2.2.2.1
    have hcl := crt_lt hi (D := D) (act := 0) (t := (mt, pt, ft))
    unfold crt at hcl
    have hob0 := hob
    unfold isOb at hob
    refine z_il3 (pc' := 38) 19 rfl rfl ?_
    refine z_al0 (pc' := 39) 20 rfl rfl ?_
    refine z_getf (pc' := 42) 21 rfl rfl f_Wb_10_11 (by first | exact pcr_0 | exact pcr_1 | exact pcr_2 | exact pcr_3 | (rw [pcr_o (by decide)]; first | exact pcc_5 | exact pcc_6 | exact pcc_7 | exact pcc_8 | exact pcc_9 | exact pcc_10 | exact pcc_11 | exact pcc_12 | exact pcc_13 | exact pcc_14 | exact pcc_15 | exact pcc_22 | (rw [pcc_o (by decide)]; assumption))) (by rfl) ?_
    refine z_getf (pc' := 45) 22 rfl rfl f_Wb_149_3 (by first | exact pcr_0 | exact pcr_1 | exact pcr_2 | exact pcr_3 | (rw [pcr_o (by decide)]; first | exact pcc_5 | exact pcc_6 | exact pcc_7 | exact pcc_8 | exact pcc_9 | exact pcc_10 | exact pcc_11 | exact pcc_12 | exact pcc_13 | exact pcc_14 | exact pcc_15 | exact pcc_22 | (rw [pcc_o (by decide)]; assumption))) (by rfl) ?_
    first | refine z_icmp_geN (pc' := 48) 23 rfl rfl (tgt := 81) rfl (by omega) (by omega) (fun h45 => ?_) (fun h45 => ?_) | refine z_icmp_ge (pc' := 48) 23 rfl rfl (tgt := 81) rfl (fun h45 => ?_) (fun h45 => ?_)
    · exfalso; omega
    · refine z_al0 (pc' := 49) 24 rfl rfl ?_
      refine z_getf (pc' := 52) 25 rfl rfl f_Wb_22_11 (by first | exact pcr_0 | exact pcr_1 | exact pcr_2 | exact pcr_3 | (rw [pcr_o (by decide)]; first | exact pcc_5 | exact pcc_6 | exact pcc_7 | exact pcc_8 | exact pcc_9 | exact pcc_10 | exact pcc_11 | exact pcc_12 | exact pcc_13 | exact pcc_14 | exact pcc_15 | exact pcc_22 | (rw [pcc_o (by decide)]; assumption))) (by rfl) ?_
      refine z_al0 (pc' := 53) 26 rfl rfl ?_
      refine z_getf (pc' := 56) 27 rfl rfl f_Wb_10_11 (by first | exact pcr_0 | exact pcr_1 | exact pcr_2 | exact pcr_3 | (rw [pcr_o (by decide)]; first | exact pcc_5 | exact pcc_6 | exact pcc_7 | exact pcc_8 | exact pcc_9 | exact pcc_10 | exact pcc_11 | exact pcc_12 | exact pcc_13 | exact pcc_14 | exact pcc_15 | exact pcc_22 | (rw [pcc_o (by decide)]; assumption))) (by rfl) ?_
      refine z_iconst (v := nI 0) (by decide) (pc' := 57) 28 rfl rfl ?_
      refine z_callVX1 (pc' := 60) 29 rfl rfl k_Wb_181 (by first | exact pcr_0 | exact pcr_1 | exact pcr_2 | exact pcr_3 | (rw [pcr_o (by decide)]; first | exact pcc_5 | exact pcc_6 | exact pcc_7 | exact pcc_8 | exact pcc_9 | exact pcc_10 | exact pcc_11 | exact pcc_12 | exact pcc_13 | exact pcc_14 | exact pcc_15 | exact pcc_22 | (rw [pcc_o (by decide)]; assumption))) (c_Cr_passes (act := 0) isCo_pcc hi (Or.inr (by decide)) (isBk_pcc hbk) hD hm (by decide) hx) (by decide) (Nat.le_refl _) (Nat.le_refl _) rfl rfl (Nat.le_of_ble_eq_true rfl) (fun q57 => ?_)
      refine z_pop rfl (pc' := 61) 30 rfl rfl ?_
      refine z_il2 (pc' := 62) 31 rfl rfl ?_
      refine z_al0 (pc' := 63) 32 rfl rfl ?_
      refine z_getf (pc' := 66) 33 rfl rfl f_Wb_22_11 (by first | exact pcr_0 | exact pcr_1 | exact pcr_2 | exact pcr_3 | (rw [pcr_o (by decide)]; first | exact pcc_5 | exact pcc_6 | exact pcc_7 | exact pcc_8 | exact pcc_9 | exact pcc_10 | exact pcc_11 | exact pcc_12 | exact pcc_13 | exact pcc_14 | exact pcc_15 | exact pcc_22 | (rw [pcc_o (by decide)]; assumption))) (by rfl) ?_
      refine z_getf (pc' := 69) 34 rfl rfl f_Wb_187_4 (by first | exact pcr_0 | exact pcr_1 | exact pcr_2 | exact pcr_3 | (rw [pcr_o (by decide)]; first | exact pcc_5 | exact pcc_6 | exact pcc_7 | exact pcc_8 | exact pcc_9 | exact pcc_10 | exact pcc_11 | exact pcc_12 | exact pcc_13 | exact pcc_14 | exact pcc_15 | exact pcc_22 | (rw [pcc_o (by decide)]; assumption))) (by rfl) ?_
      refine z_il1 (pc' := 70) 35 rfl rfl ?_
      refine z_ishr (pc' := 71) 36 rfl rfl ?_
      refine z_iconst (v := nI 1) (by decide) (pc' := 72) 37 rfl rfl ?_
      refine z_iand (pc' := 73) 38 rfl rfl ?_
      rw [nb_bit (Nat.lt_trans hcl (by decide)) (by omega)]
      first | refine z_iaddN (pc' := 74) 39 rfl rfl ?_ | refine z_iadd (pc' := 74) 39 rfl rfl ?_
      refine z_is2 rfl rfl (pc' := 75) 40 rfl rfl ?_
      first | refine z_inc3N rfl rfl (pc' := 78) 41 rfl rfl ?_ | refine z_inc3 rfl rfl rfl (pc' := 78) 41 rfl rfl ?_
      refine z_goto 42 rfl (tgt := 37) rfl ?_
      exact l_Wb_courted hob0 hi hbk hD hg j (mt + 1) _ _ _ _ _ (by omega) (by omega) (mon_ok hi hx) K
set_option maxHeartbeats 4000000 in
set_option maxRecDepth 100000 in
theorem c_Wb_courted {G : zG} {n u : Nat} {μ : Nat → va_E} {κ : zκ} {kp : Int32} {ac : Value} (h : cst μ κ) (hob : isOb μ kp ac) (htr : isTr μ) (x : Int32) :
    zMet G 5 M_Wb_courted [.ref 4, .int x] n u μ n u (cKt μ (f_courted κ x)) := by
  obtain ⟨S, mo, pr, fa, sc, ch, rc, D⟩ := κ
  have hst := h
  obtain ⟨h1, ⟨cs, q, h2⟩, ⟨β, its, h3, h3a, h3b⟩, ⟨c23, h4⟩, h5⟩ := h
  have hk5 := h5
  obtain ⟨hi, hx, hmo, hrc⟩ := h5
  have hi0 := hi.1
  have hi1 := hi.2.1
  have hi2 := hi.2.2.1
  have hi3 := hi.2.2.2.2.1
  have hm16 : mo ≤ 16 := by omega
  refine z_start (lv := [.ref 4, .int x, .retAddr 0, .retAddr 0]) K_Wb_courted rfl rfl (Nat.le_refl _) (Nat.le_refl _) (Nat.le_of_ble_eq_true rfl) rfl ?_
  have hob0 := hob
  unfold isOb at hob
  obtain ⟨mt, ct, pt, ft, qt, htr⟩ := htr
  refine z_mu (show μ = pcr (pcc μ S sc ch mo cs pr fa q) 43 mt ct pt ft qt by rw [pcc_id h1 h2, pcr_id htr]) ?_
  refine z_al0 (pc' := 1) 0 rfl rfl ?_
  refine z_getf (pc' := 4) 1 rfl rfl f_Wb_10_11 (by first | exact pcr_0 | exact pcr_1 | exact pcr_2 | exact pcr_3 | (rw [pcr_o (by decide)]; first | exact pcc_5 | exact pcc_6 | exact pcc_7 | exact pcc_8 | exact pcc_9 | exact pcc_10 | exact pcc_11 | exact pcc_12 | exact pcc_13 | exact pcc_14 | exact pcc_15 | exact pcc_22 | (rw [pcc_o (by decide)]; assumption))) (by rfl) ?_
  refine z_il1 (pc' := 5) 2 rfl rfl ?_
  refine z_callV1 (pc' := 8) 3 rfl rfl k_Wb_84 (by first | exact pcr_0 | exact pcr_1 | exact pcr_2 | exact pcr_3 | (rw [pcr_o (by decide)]; first | exact pcc_5 | exact pcc_6 | exact pcc_7 | exact pcc_8 | exact pcc_9 | exact pcc_10 | exact pcc_11 | exact pcc_12 | exact pcc_13 | exact pcc_14 | exact pcc_15 | exact pcc_22 | (rw [pcc_o (by decide)]; assumption))) (c_Co_hasGirl isCo_pcr43 hi _) (by decide) (Nat.le_refl _) (Nat.le_refl _) rfl rfl (Nat.le_of_ble_eq_true rfl) ?_
  first | refine z_if_neB (pc' := 11) 4 rfl rfl (tgt := 13) rfl (fun h8 => ?_) (fun h8 => ?_) | refine z_if_neN (pc' := 11) 4 rfl rfl (tgt := 13) rfl (by omega) (fun h8 => ?_) (fun h8 => ?_) | refine z_if_ne (pc' := 11) 4 rfl rfl (tgt := 13) rfl (fun h8 => ?_) (fun h8 => ?_)
  · obtain ⟨g, hg, rfl⟩ := z_in h8 (by omega)
    refine z_al0 (pc' := 14) 7 rfl rfl ?_
    refine z_getf (pc' := 17) 8 rfl rfl f_Wb_22_11 (by first | exact pcr_0 | exact pcr_1 | exact pcr_2 | exact pcr_3 | (rw [pcr_o (by decide)]; first | exact pcc_5 | exact pcc_6 | exact pcc_7 | exact pcc_8 | exact pcc_9 | exact pcc_10 | exact pcc_11 | exact pcc_12 | exact pcc_13 | exact pcc_14 | exact pcc_15 | exact pcc_22 | (rw [pcc_o (by decide)]; assumption))) (by rfl) ?_
    refine z_al0 (pc' := 18) 9 rfl rfl ?_
    refine z_getf (pc' := 21) 10 rfl rfl f_Wb_10_11 (by first | exact pcr_0 | exact pcr_1 | exact pcr_2 | exact pcr_3 | (rw [pcr_o (by decide)]; first | exact pcc_5 | exact pcc_6 | exact pcc_7 | exact pcc_8 | exact pcc_9 | exact pcc_10 | exact pcc_11 | exact pcc_12 | exact pcc_13 | exact pcc_14 | exact pcc_15 | exact pcc_22 | (rw [pcc_o (by decide)]; assumption))) (by rfl) ?_
    refine z_getr (pc' := 24) 11 rfl rfl f_Wb_97_3 (by first | exact pcr_0 | exact pcr_1 | exact pcr_2 | exact pcr_3 | (rw [pcr_o (by decide)]; first | exact pcc_5 | exact pcc_6 | exact pcc_7 | exact pcc_8 | exact pcc_9 | exact pcc_10 | exact pcc_11 | exact pcc_12 | exact pcc_13 | exact pcc_14 | exact pcc_15 | exact pcc_22 | (rw [pcc_o (by decide)]; assumption))) (by rfl) ?_
    refine z_callV0 (pc' := 27) 12 rfl rfl k_Wb_184 (by first | exact pcr_0 | exact pcr_1 | exact pcr_2 | exact pcr_3 | (rw [pcr_o (by decide)]; first | exact pcc_5 | exact pcc_6 | exact pcc_7 | exact pcc_8 | exact pcc_9 | exact pcc_10 | exact pcc_11 | exact pcc_12 | exact pcc_13 | exact pcc_14 | exact pcc_15 | exact pcc_22 | (rw [pcc_o (by decide)]; assumption))) (c_Cr_copyFrom isCr_pcc (Or.inl (by decide))) (by decide) (Nat.le_refl _) (Nat.le_refl _) rfl rfl (Nat.le_of_ble_eq_true rfl) ?_
    refine z_iconst (v := nI 0) (by decide) (pc' := 28) 13 rfl rfl ?_
    refine z_is2 rfl rfl (pc' := 29) 14 rfl rfl ?_
    refine z_al0 (pc' := 30) 15 rfl rfl ?_
    refine z_getf (pc' := 33) 16 rfl rfl f_Wb_22_11 (by first | exact pcr_0 | exact pcr_1 | exact pcr_2 | exact pcr_3 | (rw [pcr_o (by decide)]; first | exact pcc_5 | exact pcc_6 | exact pcc_7 | exact pcc_8 | exact pcc_9 | exact pcc_10 | exact pcc_11 | exact pcc_12 | exact pcc_13 | exact pcc_14 | exact pcc_15 | exact pcc_22 | (rw [pcc_o (by decide)]; assumption))) (by rfl) ?_
    refine z_getf (pc' := 36) 17 rfl rfl f_Wb_135_4 (by first | exact pcr_0 | exact pcr_1 | exact pcr_2 | exact pcr_3 | (rw [pcr_o (by decide)]; first | exact pcc_5 | exact pcc_6 | exact pcc_7 | exact pcc_8 | exact pcc_9 | exact pcc_10 | exact pcc_11 | exact pcc_12 | exact pcc_13 | exact pcc_14 | exact pcc_15 | exact pcc_22 | (rw [pcc_o (by decide)]; assumption))) (by rfl) ?_
    refine z_is3 rfl rfl (pc' := 37) 18 rfl rfl ?_
    refine l_Wb_courted hob0 hi h3 h3a (by omega) _ _ _ _ _ _ 0 rfl hm16 hx (fun mt1 ct1 pt1 ft1 qt1 i1 => ?_)
    refine z_il2 (pc' := 82) 43 rfl rfl ?_
    exact z_ireturn 44 rfl rfl (by first | rfl | exact zbo_nar) rfl rfl (by show cKt μ _ _ _; rw [f_courted, if_pos h8, tN_n (by omega)]; exact cKt_of hst rfl rfl (hk5))
  · refine z_iconst (v := (-1)) (by decide) (pc' := 12) 5 rfl rfl ?_
    exact z_ireturn 6 rfl rfl (by first | rfl | exact zbo_nar) rfl rfl (by show cKt μ _ _ _; rw [f_courted, if_neg h8]; exact cKt_of hst rfl rfl (hk5))
set_option maxHeartbeats 4000000 in
set_option maxRecDepth 100000 in
theorem l_Mo_courted {G : zG} {n u : Nat} {Φ : zP} {ν : Nat → va_E} {s : Nat → Int32} {S : Nat → Nat → Nat} {ch : Int32} {rc : Nat} {ρ w : Nat → Int32} {D : zD6} (hi : iS S) (hD : dzM ρ rc D) {g : Nat} (hg : g < 6) : ∀ j mo pr fa sc (q : Nat → Int32) v acc, j = S 0 3 - mo → mo ≤ 16 → iX S pr fa →
    (∀ mo' pr' fa' sc' (q' : Nat → Int32) v', zW G 6 M_Mo_courted 43 [.ref 88, .int (nI g), .int (nI (crA S D g j acc (mo, pr, fa)))] [] n u (pm (zu (zu ν 91 (.inl (0, 618, .inl w))) 93 (.inl (1, 100, .inl q'))) (un s 14 v') (mk S mo' pr' fa' sc' ch rc ρ)) n u Φ) →
    zW G 6 M_Mo_courted 16 [.ref 88, .int (nI g), .int (nI acc)] [] n u (pm (zu (zu ν 91 (.inl (0, 618, .inl w))) 93 (.inl (1, 100, .inl q))) (un s 14 v) (mk S mo pr fa sc ch rc ρ)) n u Φ
  | 0, mo, pr, fa, sc, q, v, acc, e, hm, hx, K => by
    have hi3 := hi.2.2.2.2.1
    refine z_al0 (pc' := 17) 10 rfl rfl ?_
    refine z_callV1 (pc' := 20) 11 rfl rfl k_Mo_124 (by first | exact pm_f | exact pm_1 | (rw [pm_o (by decide)]; first | exact zu_s | (rw [zu_n (by decide)]; first | exact zu_s | (rw [zu_n (by decide)]; assumption)))) (c_Mo_isOver hi hm) (by decide) (Nat.le_refl _) (Nat.le_refl _) rfl rfl (Nat.le_of_ble_eq_true rfl) ?_
    first | refine z_if_neB (pc' := 23) 12 rfl rfl (tgt := 43) rfl (fun h20 => ?_) (fun h20 => ?_) | refine z_if_neN (pc' := 23) 12 rfl rfl (tgt := 43) rfl (by omega) (fun h20 => ?_) (fun h20 => ?_) | refine z_if_ne (pc' := 23) 12 rfl rfl (tgt := 43) rfl (fun h20 => ?_) (fun h20 => ?_)
    · exact K _ _ _ _ _ _
    · exfalso; omega
  | j + 1, mo, pr, fa, sc, q, v, acc, e, hm, hx, K => by
    have hi3 := hi.2.2.2.2.1
    have hcl := crt_lt hi (D := D) (act := 0) (t := (mo, pr, fa))
    unfold crt at hcl
    refine z_al0 (pc' := 17) 10 rfl rfl ?_
    refine z_callV1 (pc' := 20) 11 rfl rfl k_Mo_124 (by first | exact pm_f | exact pm_1 | (rw [pm_o (by decide)]; first | exact zu_s | (rw [zu_n (by decide)]; first | exact zu_s | (rw [zu_n (by decide)]; assumption)))) (c_Mo_isOver hi hm) (by decide) (Nat.le_refl _) (Nat.le_refl _) rfl rfl (Nat.le_of_ble_eq_true rfl) ?_
    first | refine z_if_neB (pc' := 23) 12 rfl rfl (tgt := 43) rfl (fun h20 => ?_) (fun h20 => ?_) | refine z_if_neN (pc' := 23) 12 rfl rfl (tgt := 43) rfl (by omega) (fun h20 => ?_) (fun h20 => ?_) | refine z_if_ne (pc' := 23) 12 rfl rfl (tgt := 43) rfl (fun h20 => ?_) (fun h20 => ?_)
    · exfalso; omega
    · refine z_al0 (pc' := 24) 13 rfl rfl ?_
      refine z_iconst (v := (-1)) (by decide) (pc' := 25) 14 rfl rfl ?_
      refine z_callVX1 (pc' := 28) 15 rfl rfl k_Mo_227 (by first | exact pm_f | exact pm_1 | (rw [pm_o (by decide)]; first | exact zu_s | (rw [zu_n (by decide)]; first | exact zu_s | (rw [zu_n (by decide)]; assumption)))) (c_Mo_goes (act := 0) hi hD hm (by decide) hx) (by decide) (Nat.le_refl _) (Nat.le_refl _) rfl rfl (Nat.le_of_ble_eq_true rfl) (fun q25 => ?_)
      refine z_pop rfl (pc' := 29) 16 rfl rfl ?_
      refine z_il2 (pc' := 30) 17 rfl rfl ?_
      refine z_al0 (pc' := 31) 18 rfl rfl ?_
      refine z_getf (pc' := 34) 19 rfl rfl f_Mo_218_12 (by first | exact pm_f | exact pm_1 | (rw [pm_o (by decide)]; first | exact zu_s | (rw [zu_n (by decide)]; first | exact zu_s | (rw [zu_n (by decide)]; assumption)))) (by rfl) ?_
      rw [un_s]
      refine z_il1 (pc' := 35) 20 rfl rfl ?_
      refine z_ishr (pc' := 36) 21 rfl rfl ?_
      refine z_iconst (v := nI 1) (by decide) (pc' := 37) 22 rfl rfl ?_
      refine z_iand (pc' := 38) 23 rfl rfl ?_
      rw [nb_bit (Nat.lt_trans hcl (by decide)) (by omega)]
      first | refine z_iaddN (pc' := 39) 24 rfl rfl ?_ | refine z_iadd (pc' := 39) 24 rfl rfl ?_
      refine z_is2 rfl rfl (pc' := 40) 25 rfl rfl ?_
      refine z_goto 26 rfl (tgt := 16) rfl ?_
      rw [un_un]
      exact l_Mo_courted hi hD hg j _ _ _ _ _ _ _ (by omega) (by omega) (mon_ok hi hx) K
set_option maxHeartbeats 4000000 in
set_option maxRecDepth 100000 in
theorem c_Mo_courted {G : zG} {n u : Nat} {μ : Nat → va_E} {κ : zκ} {s : Nat → Int32} (h : mst μ s κ) (x : Int32) :
    zMet G 6 M_Mo_courted [.ref 88, .int x] n u μ n u (mK μ s (f_courted κ x)) := by
  obtain ⟨S, mo, pr, fa, sc, ch, rc, D⟩ := κ
  have hst := h
  obtain ⟨⟨ρ, h1, hD⟩, h2, ⟨q93, h93⟩, ⟨q91, h91⟩, ⟨q94, h94⟩, ⟨q95, h95⟩, ⟨q96, h96⟩, ⟨q97, h97⟩, h5⟩ := h
  have hk5 := h5
  obtain ⟨hi, hx, hmo, hrc⟩ := h5
  have hi0 := hi.1
  have hi1 := hi.2.1
  have hi2 := hi.2.2.1
  have hi3 := hi.2.2.2.2.1
  have hm16 : mo ≤ 16 := by omega
  refine z_start (lv := [.ref 88, .int x, .retAddr 0]) K_Mo_courted rfl rfl (Nat.le_refl _) (Nat.le_refl _) (Nat.le_of_ble_eq_true rfl) rfl ?_
  refine z_mu (show μ = pm (zu (zu μ 91 (.inl (0, 618, .inl q91))) 93 (.inl (1, 100, .inl q93))) s (mk S mo pr fa sc ch rc ρ) by rw [zu_id h91, zu_id h93, pm_id h2 h1]) ?_
  refine z_al0 (pc' := 1) 0 rfl rfl ?_
  refine z_il1 (pc' := 2) 1 rfl rfl ?_
  refine z_callV1 (pc' := 5) 2 rfl rfl k_Mo_92 (by first | exact pm_f | exact pm_1 | (rw [pm_o (by decide)]; first | exact zu_s | (rw [zu_n (by decide)]; first | exact zu_s | (rw [zu_n (by decide)]; assumption)))) (c_Mo_isGirl hi _) (by decide) (Nat.le_refl _) (Nat.le_refl _) rfl rfl (Nat.le_of_ble_eq_true rfl) ?_
  first | refine z_if_neB (pc' := 8) 3 rfl rfl (tgt := 10) rfl (fun h5 => ?_) (fun h5 => ?_) | refine z_if_neN (pc' := 8) 3 rfl rfl (tgt := 10) rfl (by omega) (fun h5 => ?_) (fun h5 => ?_) | refine z_if_ne (pc' := 8) 3 rfl rfl (tgt := 10) rfl (fun h5 => ?_) (fun h5 => ?_)
  · obtain ⟨g, hg, rfl⟩ := z_in h5 (by omega)
    refine z_al0 (pc' := 11) 6 rfl rfl ?_
    refine z_callV0 (pc' := 14) 7 rfl rfl k_Mo_194 (by first | exact pm_f | exact pm_1 | (rw [pm_o (by decide)]; first | exact zu_s | (rw [zu_n (by decide)]; first | exact zu_s | (rw [zu_n (by decide)]; assumption)))) (c_Mo_thinks) (by decide) (Nat.le_refl _) (Nat.le_refl _) rfl rfl (Nat.le_of_ble_eq_true rfl) ?_
    refine z_iconst (v := nI 0) (by decide) (pc' := 15) 8 rfl rfl ?_
    refine z_is2 rfl rfl (pc' := 16) 9 rfl rfl ?_
    refine z_mu (show _ = pm (zu (zu μ 91 (.inl (0, 618, .inl (mk S mo pr fa sc ch rc ρ)))) 93 (.inl (1, 100, .inl q93))) (un s 14 (s 14)) (mk S mo pr fa sc ch rc ρ) by rw [un_id]) ?_
    refine l_Mo_courted hi hD (by omega) _ _ _ _ _ _ _ 0 rfl hm16 hx (fun mo1 pr1 fa1 sc1 q1 v1 => ?_)
    refine z_al0 (pc' := 44) 27 rfl rfl ?_
    refine z_callV0 (pc' := 47) 28 rfl rfl k_Mo_200 (by first | exact pm_f | exact pm_1 | (rw [pm_o (by decide)]; first | exact zu_s | (rw [zu_n (by decide)]; first | exact zu_s | (rw [zu_n (by decide)]; assumption)))) (c_Mo_putsBack) (by decide) (Nat.le_refl _) (Nat.le_refl _) rfl rfl (Nat.le_of_ble_eq_true rfl) ?_
    refine z_il2 (pc' := 48) 29 rfl rfl ?_
    exact z_ireturn 30 rfl rfl (by first | rfl | exact zbo_nar) rfl rfl (by show mK μ s _ _ _; rw [f_courted, if_pos h5, tN_n (by omega)]; exact mK_of3 hst (sEq14) hD (hk5))
  · refine z_iconst (v := (-1)) (by decide) (pc' := 9) 4 rfl rfl ?_
    exact z_ireturn 5 rfl rfl (by first | rfl | exact zbo_nar) rfl rfl (by show mK μ s _ _ _; rw [f_courted, if_neg h5]; exact mK_of3 hst (sEq_r) hD (hk5))
