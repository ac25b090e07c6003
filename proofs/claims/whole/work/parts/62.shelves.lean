/-! ===== shelves ===== -/
abbrev zσ : Type := Nat → Nat × Int32 × Int32
def iH (σ : zσ) (nu ss : Nat → Int32) : Prop := ∀ j, (σ j).1 ≤ 2 ∧ ((σ j).1 = 0 → nu j = (σ j).2.1) ∧ ((σ j).1 = 1 → ss j = (σ j).2.1 ∧ nu j = (σ j).2.2)
def isHe (μ : Nat → va_E) (σ : zσ) : Prop := ∃ nu ss : Nat → Int32, μ 84 = .inl (0, 4, .inl (fun j => nI (σ j).1)) ∧ μ 85 = .inl (0, 4, .inl nu) ∧ μ 86 = .inl (0, 4, .inl ss) ∧ iH σ nu ss
def nwS (τ : zτ) (y v : Int32) : Nat × Int32 × Int32 := if y = 0 then (0, v, 0) else if y = nI 1 then (if τ.1 (tN v) = 0 then (2, 0, 0) else (1, hdI (τ.1 (tN v)), nI (τ.2.1 (tN v)))) else (2, 0, 0)
def f_shelf (κ : zκ) (τ : zτ) (σ : zσ) (x y v : Int32) : Int32 × zσ :=
  if (nI 0 ≤ x ∧ x ≤ nI 3) ∧ (nI 0 ≤ y ∧ y ≤ nI 2) ∧ (y = 0 → 0 ≤ v ∧ v < nI (κ.1 0 0)) ∧ (y = nI 1 → nI 0 ≤ v ∧ v ≤ nI 3) then (nI 1, un σ (tN x) (nwS τ y v)) else (-1, σ)
def hld (S : Nat → Nat → Nat) (σ : zσ) (x : Nat) : Nat := if (σ x).1 = 0 ∧ ¬ (0 ≤ (σ x).2.1 ∧ (σ x).2.1 < nI (S 0 0)) then 2 else (σ x).1
def f_taken (κ : zκ) (σ : zσ) (x y : Int32) : Int32 :=
  if (nI 0 ≤ x ∧ x ≤ nI 3) ∧ ((nI 0 ≤ y ∧ y ≤ nI 5) ∨ (nI 10 ≤ y ∧ y ≤ nI 14)) then
    (if hld κ.1 σ (tN x) = 2 then -11 else if hld κ.1 σ (tN x) = 0 then (if (nI 0 ≤ y ∧ y ≤ nI 5) ∧ udB (κ.1 1 (tN (σ (tN x)).2.1)) (tN y) = true then (σ (tN x)).2.1 else -13) else if (σ (tN x)).2.1 = y - nI 10 then (σ (tN x)).2.2 else -13)
  else -1
def phe (ν : Nat → va_E) (ho nu ss : Nat → Int32) : Nat → va_E := zu (zu (zu ν 84 (.inl (0, 4, .inl ho))) 85 (.inl (0, 4, .inl nu))) 86 (.inl (0, 4, .inl ss))
section PHE
variable {ν : Nat → va_E} {ho nu ss : Nat → Int32}
theorem phe_84 : phe ν ho nu ss 84 = .inl (0, 4, .inl ho) := by
  unfold phe
  rw [zu_n (by decide), zu_n (by decide), zu_s]
theorem phe_85 : phe ν ho nu ss 85 = .inl (0, 4, .inl nu) := by
  unfold phe
  rw [zu_n (by decide), zu_s]
theorem phe_86 : phe ν ho nu ss 86 = .inl (0, 4, .inl ss) := zu_s
theorem phe_o {i : Nat} (h : i < 84 ∨ 86 < i) : phe ν ho nu ss i = ν i := by
  unfold phe
  rw [zu_n (by omega), zu_n (by omega), zu_n (by omega)]
theorem phe_s84 {f : Nat → Int32} : zu (phe ν ho nu ss) 84 (.inl (0, 4, .inl f)) = phe ν f nu ss := by
  unfold phe
  rw [zu_sw (a := 86) (b := 84) (by decide), zu_sw (a := 85) (b := 84) (by decide), zu_zu]
theorem phe_s85 {f : Nat → Int32} : zu (phe ν ho nu ss) 85 (.inl (0, 4, .inl f)) = phe ν ho f ss := by
  unfold phe
  rw [zu_sw (a := 86) (b := 85) (by decide), zu_zu]
theorem phe_s86 {f : Nat → Int32} : zu (phe ν ho nu ss) 86 (.inl (0, 4, .inl f)) = phe ν ho nu f := by
  unfold phe
  rw [zu_zu]
theorem phe_id (h4 : ν 84 = .inl (0, 4, .inl ho)) (h5 : ν 85 = .inl (0, 4, .inl nu)) (h6 : ν 86 = .inl (0, 4, .inl ss)) : phe ν ho nu ss = ν := by
  unfold phe
  rw [zu_id h4, zu_id h5, zu_id h6]
end PHE
def cKh (μ : Nat → va_E) (p : Int32 × zσ) : zP := fun r μ' => r = some (.int p.1) ∧ isHe μ' p.2 ∧ ∀ i, (i < 84 ∨ 86 < i) → μ' i = μ i
theorem cKh_of {μ : Nat → va_E} {r : Int32} {σ : zσ} {ho nu ss : Nat → Int32} (h0 : ho = fun j => nI (σ j).1) (h : iH σ nu ss) : cKh μ (r, σ) (some (.int r)) (phe μ ho nu ss) := by
  subst h0
  exact ⟨rfl, ⟨nu, ss, phe_84, phe_85, phe_86, h⟩, fun i hi => phe_o hi⟩
theorem updH9 {σ : zσ} {x : Nat} {e : Nat × Int32 × Int32} {h : Nat} (hh : e.1 = h) : upd (fun j => nI (σ j).1) x (nI h) = fun j => nI (un σ x e j).1 := by
  funext j
  by_cases z : j = x
  · subst z; rw [upd_at, un_s, hh]
  · rw [upd_no z, un_n z]
theorem iH_0 {σ : zσ} {nu ss : Nat → Int32} (h : iH σ nu ss) {x : Nat} {v b : Int32} : iH (un σ x (0, v, b)) (upd nu x v) ss := fun j => by
  by_cases z : j = x
  · subst z; rw [upd_at, un_s]; exact ⟨Nat.zero_le _, fun _ => rfl, fun q => absurd q (show ¬ (0 : Nat) = 1 by decide)⟩
  · rw [upd_no z, un_n z]; exact h j
theorem iH_1 {σ : zσ} {nu ss : Nat → Int32} (h : iH σ nu ss) {x : Nat} {a b : Int32} : iH (un σ x (1, a, b)) (upd nu x b) (upd ss x a) := fun j => by
  by_cases z : j = x
  · subst z; rw [upd_at, upd_at, un_s]; exact ⟨show (1 : Nat) ≤ 2 by decide, fun q => absurd q (show ¬ (1 : Nat) = 0 by decide), fun _ => ⟨rfl, rfl⟩⟩
  · rw [upd_no z, upd_no z, un_n z]; exact h j
theorem iH_2 {σ : zσ} {nu ss : Nat → Int32} (h : iH σ nu ss) {x : Nat} {a b : Int32} : iH (un σ x (2, a, b)) nu ss := fun j => by
  by_cases z : j = x
  · subst z; rw [un_s]; exact ⟨Nat.le_refl _, fun q => absurd q (show ¬ (2 : Nat) = 0 by decide), fun q => absurd q (show ¬ (2 : Nat) = 1 by decide)⟩
  · rw [un_n z]; exact h j
theorem upd_upd {f : Nat → Int32} {x : Nat} {a b : Int32} : upd (upd f x a) x b = upd f x b := by
  funext j
  by_cases z : j = x
  · subst z; rw [upd_at, upd_at]
  · rw [upd_no z, upd_no z, upd_no z]
set_option maxHeartbeats 4000000 in
set_option maxRecDepth 100000 in
theorem c_Wb_putRow {G : zG} {n u : Nat} {ν : Nat → va_E} {ho nu ss : Nat → Int32} {τ : zτ} {kp : Int32} {ac : Value} (hsh : isSh ν τ) (hob : isOb ν kp ac) {x v : Nat} (hx : x ≤ 3) (hv : v ≤ 3) : zMet G 0 M_Wb_putRow [.ref 4, .int (nI x), .int (nI v)] n u (phe ν ho nu ss) n u (zE none (if τ.1 v = 0 then phe ν (upd ho x (nI 2)) nu ss else phe ν ho (upd nu x (nI (τ.2.1 v))) (upd ss x (hdI (τ.1 v))))) := by
  have h5 := (hsh.2.2.2 v).1
  have h81 := hsh.1
  have h82 := hsh.2.1
  unfold isOb at hob
  refine z_start (lv := [.ref 4, .int (nI x), .int (nI v)]) K_Wb_putRow rfl rfl (Nat.le_refl _) (Nat.le_refl _) (Nat.le_of_ble_eq_true rfl) rfl ?_
  refine z_al0 (pc' := 1) 0 rfl rfl ?_
  refine z_getf (pc' := 4) 1 rfl rfl f_Wb_47_11 (by first | exact phe_84 | exact phe_85 | exact phe_86 | (rw [phe_o (by decide)]; assumption)) (by rfl) ?_
  refine z_il2 (pc' := 5) 2 rfl rfl ?_
  refine z_iald (pc' := 6) 3 rfl rfl (by first | exact phe_84 | exact phe_85 | exact phe_86 | (rw [phe_o (by decide)]; assumption)) (by omega) (by decide) ?_
  refine z_iconst (v := (-1)) (by decide) (pc' := 7) 4 rfl rfl ?_
  first | refine z_icmp_ne (pc' := 10) 5 rfl rfl (tgt := 20) rfl (fun h7 => ?_) (fun h7 => ?_)
  · refine z_al0 (pc' := 21) 12 rfl rfl ?_
    refine z_getf (pc' := 24) 13 rfl rfl f_Wb_63_11 (by first | exact phe_84 | exact phe_85 | exact phe_86 | (rw [phe_o (by decide)]; assumption)) (by rfl) ?_
    refine z_il1 (pc' := 25) 14 rfl rfl ?_
    refine z_al0 (pc' := 26) 15 rfl rfl ?_
    refine z_getf (pc' := 29) 16 rfl rfl f_Wb_47_11 (by first | exact phe_84 | exact phe_85 | exact phe_86 | (rw [phe_o (by decide)]; assumption)) (by rfl) ?_
    refine z_il2 (pc' := 30) 17 rfl rfl ?_
    refine z_iald (pc' := 31) 18 rfl rfl (by first | exact phe_84 | exact phe_85 | exact phe_86 | (rw [phe_o (by decide)]; assumption)) (by omega) (by decide) ?_
    refine z_iast (pc' := 32) 19 rfl rfl (by first | exact phe_84 | exact phe_85 | exact phe_86 | (rw [phe_o (by decide)]; assumption)) (by omega) (by decide) ?_
    rw [phe_s86]
    refine z_al0 (pc' := 33) 20 rfl rfl ?_
    refine z_getf (pc' := 36) 21 rfl rfl f_Wb_60_11 (by first | exact phe_84 | exact phe_85 | exact phe_86 | (rw [phe_o (by decide)]; assumption)) (by rfl) ?_
    refine z_il1 (pc' := 37) 22 rfl rfl ?_
    refine z_al0 (pc' := 38) 23 rfl rfl ?_
    refine z_getf (pc' := 41) 24 rfl rfl f_Wb_51_11 (by first | exact phe_84 | exact phe_85 | exact phe_86 | (rw [phe_o (by decide)]; assumption)) (by rfl) ?_
    refine z_il2 (pc' := 42) 25 rfl rfl ?_
    refine z_iald (pc' := 43) 26 rfl rfl (by first | exact phe_84 | exact phe_85 | exact phe_86 | (rw [phe_o (by decide)]; assumption)) (by omega) (by decide) ?_
    refine z_iast (pc' := 44) 27 rfl rfl (by first | exact phe_84 | exact phe_85 | exact phe_86 | (rw [phe_o (by decide)]; assumption)) (by omega) (by decide) ?_
    rw [phe_s85]
    exact z_return 28 rfl rfl rfl rfl (by exact ⟨rfl, by rw [if_neg (fun z => h7 ((hd_m1 h5).mpr z))]⟩)
  · refine z_al0 (pc' := 11) 6 rfl rfl ?_
    refine z_getf (pc' := 14) 7 rfl rfl f_Wb_57_11 (by first | exact phe_84 | exact phe_85 | exact phe_86 | (rw [phe_o (by decide)]; assumption)) (by rfl) ?_
    refine z_il1 (pc' := 15) 8 rfl rfl ?_
    refine z_iconst (v := nI 2) (by decide) (pc' := 16) 9 rfl rfl ?_
    refine z_iast (pc' := 17) 10 rfl rfl (by first | exact phe_84 | exact phe_85 | exact phe_86 | (rw [phe_o (by decide)]; assumption)) (by omega) (by decide) ?_
    rw [phe_s84]
    refine z_goto 11 rfl (tgt := 44) rfl ?_
    exact z_return 28 rfl rfl rfl rfl (by exact ⟨rfl, by rw [if_pos ((hd_m1 h5).mp h7)]⟩)
set_option maxHeartbeats 4000000 in
set_option maxRecDepth 100000 in
theorem c_Wb_heldOn {G : zG} {n u : Nat} {μ : Nat → va_E} {S : Nat → Nat → Nat} {sc ch : Int32} {σ : zσ} {kp : Int32} {ac : Value} (hco : isCo μ S sc ch) (hi : iS S) (hhe : isHe μ σ) (hob : isOb μ kp ac) {x : Nat} (hx : x ≤ 3) : zMet G 1 M_Wb_heldOn [.ref 4, .int (nI x)] n u μ n u (zE (some (.int (nI (hld S σ x)))) μ) := by
  obtain ⟨nu, ss, h84, h85, h86, hH⟩ := hhe
  have hH1 := (hH x).1
  have hH0 := (hH x).2.1
  have hco5 := hco.1
  unfold isOb at hob
  refine z_start (lv := [.ref 4, .int (nI x), .retAddr 0]) K_Wb_heldOn rfl rfl (Nat.le_refl _) (Nat.le_refl _) (Nat.le_of_ble_eq_true rfl) rfl ?_
  refine z_al0 (pc' := 1) 0 rfl rfl ?_
  refine z_getf (pc' := 4) 1 rfl rfl f_Wb_57_11 (by assumption) (by rfl) ?_
  refine z_il1 (pc' := 5) 2 rfl rfl ?_
  refine z_iald (pc' := 6) 3 rfl rfl (by assumption) (by omega) (by decide) ?_
  first | refine z_if_neB (pc' := 9) 4 rfl rfl (tgt := 29) rfl (fun h6 => ?_) (fun h6 => ?_) | refine z_if_neN (pc' := 9) 4 rfl rfl (tgt := 29) rfl (by omega) (fun h6 => ?_) (fun h6 => ?_) | refine z_if_ne (pc' := 9) 4 rfl rfl (tgt := 29) rfl (fun h6 => ?_) (fun h6 => ?_)
  · refine z_iconst (v := nI 0) (by decide) (pc' := 30) 15 rfl rfl ?_
    refine z_is2 rfl rfl (pc' := 31) 16 rfl rfl ?_
    refine z_il2 (pc' := 32) 17 rfl rfl ?_
    refine z_if_eq_t 18 rfl (tgt := 39) rfl rfl ?_
    refine z_al0 (pc' := 40) 21 rfl rfl ?_
    refine z_getf (pc' := 43) 22 rfl rfl f_Wb_57_11 (by assumption) (by rfl) ?_
    refine z_il1 (pc' := 44) 23 rfl rfl ?_
    refine z_iald (pc' := 45) 24 rfl rfl (by assumption) (by omega) (by decide) ?_
    exact z_ireturn 25 rfl rfl (by first | rfl | exact zbo_nar) rfl rfl (by exact ⟨by rw [hld, if_neg (fun z => h6 z.1)], rfl⟩)
  · refine z_al0 (pc' := 10) 5 rfl rfl ?_
    refine z_getf (pc' := 13) 6 rfl rfl f_Wb_10_11 (by assumption) (by rfl) ?_
    refine z_al0 (pc' := 14) 7 rfl rfl ?_
    refine z_getf (pc' := 17) 8 rfl rfl f_Wb_60_11 (by assumption) (by rfl) ?_
    refine z_il1 (pc' := 18) 9 rfl rfl ?_
    refine z_iald (pc' := 19) 10 rfl rfl (by assumption) (by omega) (by decide) ?_
    rw [hH0 h6]
    refine z_callV1 (pc' := 22) 11 rfl rfl k_Wb_84 (by assumption) (c_Co_hasGirl hco hi _) (by decide) (Nat.le_refl _) (Nat.le_refl _) rfl rfl (Nat.le_of_ble_eq_true rfl) ?_
    first | refine z_if_neB (pc' := 25) 12 rfl rfl (tgt := 29) rfl (fun h22 => ?_) (fun h22 => ?_) | refine z_if_neN (pc' := 25) 12 rfl rfl (tgt := 29) rfl (by omega) (fun h22 => ?_) (fun h22 => ?_) | refine z_if_ne (pc' := 25) 12 rfl rfl (tgt := 29) rfl (fun h22 => ?_) (fun h22 => ?_)
    · refine z_iconst (v := nI 0) (by decide) (pc' := 30) 15 rfl rfl ?_
      refine z_is2 rfl rfl (pc' := 31) 16 rfl rfl ?_
      refine z_il2 (pc' := 32) 17 rfl rfl ?_
      refine z_if_eq_t 18 rfl (tgt := 39) rfl rfl ?_
      refine z_al0 (pc' := 40) 21 rfl rfl ?_
      refine z_getf (pc' := 43) 22 rfl rfl f_Wb_57_11 (by assumption) (by rfl) ?_
      refine z_il1 (pc' := 44) 23 rfl rfl ?_
      refine z_iald (pc' := 45) 24 rfl rfl (by assumption) (by omega) (by decide) ?_
      exact z_ireturn 25 rfl rfl (by first | rfl | exact zbo_nar) rfl rfl (by exact ⟨by rw [hld, if_neg (fun z => z.2 h22)], rfl⟩)
    · refine z_iconst (v := nI 1) (by decide) (pc' := 26) 13 rfl rfl ?_
      refine z_goto 14 rfl (tgt := 30) rfl ?_
      refine z_is2 rfl rfl (pc' := 31) 16 rfl rfl ?_
      refine z_il2 (pc' := 32) 17 rfl rfl ?_
      refine z_if_eq_f (pc' := 35) 18 rfl rfl (tgt := 39) rfl (by decide) ?_
      refine z_iconst (v := nI 2) (by decide) (pc' := 36) 19 rfl rfl ?_
      refine z_goto 20 rfl (tgt := 45) rfl ?_
      exact z_ireturn 25 rfl rfl (by first | rfl | exact zbo_nar) rfl rfl (by exact ⟨by rw [hld, if_pos ⟨h6, h22⟩], rfl⟩)
theorem phe_h2 {ν : Nat → va_E} {ho ho2 nu ss : Nat → Int32} (h : ho = ho2) : phe ν ho nu ss = phe ν ho2 nu ss := by rw [h]
theorem y_2 {y : Int32} (h : nI 0 ≤ y ∧ y ≤ nI 2) (h0 : ¬ y = 0) (h1 : ¬ y = nI 1) : y = nI 2 := by
  obtain ⟨j, _, hj, rfl⟩ := z_wi h (by decide) (by decide)
  have a : j ≠ 0 := fun z => h0 (by rw [z]; rfl)
  have b : j ≠ 1 := fun z => h1 (by rw [z])
  rw [show j = 2 by omega]
set_option maxHeartbeats 4000000 in
set_option maxRecDepth 100000 in
theorem c_Wb_shelf {G : zG} {n u : Nat} {μ : Nat → va_E} {κ : zκ} {σ : zσ} {kp : Int32} {ac : Value} (h : cst μ κ) (hhe : isHe μ σ) (hob : isOb μ kp ac) {τ : zτ} (hsh : isSh μ τ) (x y v : Int32) :
    zMet G 2 M_Wb_shelf [.ref 4, .int x, .int y, .int v] n u μ n u (cKh μ (f_shelf κ τ σ x y v)) := by
  obtain ⟨S, mo, pr, fa, sc, ch, rc, D⟩ := κ
  have hst := h
  obtain ⟨h1, ⟨cs, q, h2⟩, ⟨β, its, h3, h3a, h3b⟩, ⟨c23, h4⟩, h5⟩ := h
  have hk5 := h5
  obtain ⟨hi, hx, hmo, hrc⟩ := h5
  have hi0 := hi.1
  have hi1 := hi.2.1
  have hi2 := hi.2.2.1
  have hi3 := hi.2.2.2.2.1
  obtain ⟨nu, ss, h84, h85, h86, hH⟩ := hhe
  have h51 := h1.1
  refine z_start (lv := [.ref 4, .int x, .int y, .int v]) K_Wb_shelf rfl rfl (Nat.le_refl _) (Nat.le_refl _) (Nat.le_of_ble_eq_true rfl) rfl ?_
  have hob0 := hob
  unfold isOb at hob
  refine z_mu (phe_id h84 h85 h86).symm ?_
  refine z_il1 (pc' := 1) 0 rfl rfl ?_
  refine z_callS1 (pc' := 4) 1 rfl rfl k_Wb_288 (c_Wb_isShelf _) (by decide) (Nat.le_refl _) (Nat.le_refl _) rfl rfl (Nat.le_of_ble_eq_true rfl) ?_
  first | refine z_if_eqB (pc' := 7) 2 rfl rfl (tgt := 43) rfl (fun h4 => ?_) (fun h4 => ?_) | refine z_if_eqN (pc' := 7) 2 rfl rfl (tgt := 43) rfl (by omega) (fun h4 => ?_) (fun h4 => ?_) | refine z_if_eq (pc' := 7) 2 rfl rfl (tgt := 43) rfl (fun h4 => ?_) (fun h4 => ?_)
  · refine z_iconst (v := (-1)) (by decide) (pc' := 44) 21 rfl rfl ?_
    exact z_ireturn 22 rfl rfl (by first | rfl | exact zbo_nar) rfl rfl (by show cKh μ _ _ _; rw [f_shelf, if_neg (fun z => h4 z.1)]; exact cKh_of rfl hH)
  · refine z_il2 (pc' := 8) 3 rfl rfl ?_
    refine z_iconst (v := nI 0) (by decide) (pc' := 9) 4 rfl rfl ?_
    refine z_iconst (v := nI 2) (by decide) (pc' := 10) 5 rfl rfl ?_
    refine z_callS1 (pc' := 13) 6 rfl rfl k_Wb_72 (c_Wb_within _ _ _) (by decide) (Nat.le_refl _) (Nat.le_refl _) rfl rfl (Nat.le_of_ble_eq_true rfl) ?_
    first | refine z_if_eqB (pc' := 16) 7 rfl rfl (tgt := 43) rfl (fun h13 => ?_) (fun h13 => ?_) | refine z_if_eqN (pc' := 16) 7 rfl rfl (tgt := 43) rfl (by omega) (fun h13 => ?_) (fun h13 => ?_) | refine z_if_eq (pc' := 16) 7 rfl rfl (tgt := 43) rfl (fun h13 => ?_) (fun h13 => ?_)
    · refine z_iconst (v := (-1)) (by decide) (pc' := 44) 21 rfl rfl ?_
      exact z_ireturn 22 rfl rfl (by first | rfl | exact zbo_nar) rfl rfl (by show cKh μ _ _ _; rw [f_shelf, if_neg (fun z => h13 z.2.1)]; exact cKh_of rfl hH)
    · refine z_il2 (pc' := 17) 8 rfl rfl ?_
      first | refine z_if_ne (pc' := 20) 9 rfl rfl (tgt := 31) rfl (fun h17 => ?_) (fun h17 => ?_)
      · refine z_il2 (pc' := 32) 15 rfl rfl ?_
        refine z_iconst (v := nI 1) (by decide) (pc' := 33) 16 rfl rfl ?_
        first | refine z_icmp_ne (pc' := 36) 17 rfl rfl (tgt := 45) rfl (fun h33 => ?_) (fun h33 => ?_)
        · obtain ⟨x1, hx0, hx1, rfl⟩ := z_wi h4 (by decide) (by decide)
          have hyk : y = nI 2 := y_2 h13 h17 h33
          subst hyk
          refine z_al0 (pc' := 46) 23 rfl rfl ?_
          refine z_getf (pc' := 49) 24 rfl rfl f_Wb_57_11 (by first | exact phe_84 | exact phe_85 | exact phe_86 | (rw [phe_o (by decide)]; assumption)) (by rfl) ?_
          refine z_il1 (pc' := 50) 25 rfl rfl ?_
          refine z_il2 (pc' := 51) 26 rfl rfl ?_
          refine z_iast (pc' := 52) 27 rfl rfl (by first | exact phe_84 | exact phe_85 | exact phe_86 | (rw [phe_o (by decide)]; assumption)) (by omega) (by decide) ?_
          rw [phe_s84]
          refine z_il2 (pc' := 53) 28 rfl rfl ?_
          refine z_if_ne_t 29 rfl (tgt := 63) rfl h17 ?_
          refine z_il2 (pc' := 64) 35 rfl rfl ?_
          refine z_iconst (v := nI 1) (by decide) (pc' := 65) 36 rfl rfl ?_
          refine z_icmp_ne_t 37 rfl (tgt := 74) rfl h33 ?_
          refine z_iconst (v := nI 1) (by decide) (pc' := 75) 42 rfl rfl ?_
          exact z_ireturn 43 rfl rfl (by first | rfl | exact zbo_nar) rfl rfl (by show cKh μ _ _ _; rw [f_shelf, if_pos ⟨h4, h13, fun z => absurd z h17, fun z => absurd z h33⟩, tN_n (show x1 < 2 ^ 31 by omega), nwS, if_neg h17, if_neg h33]; exact cKh_of (updH9 rfl) (iH_2 hH))
        · refine z_il3 (pc' := 37) 18 rfl rfl ?_
          refine z_callS1 (pc' := 40) 19 rfl rfl k_Wb_272 (c_Wb_isSheet _) (by decide) (Nat.le_refl _) (Nat.le_refl _) rfl rfl (Nat.le_of_ble_eq_true rfl) ?_
          first | refine z_if_neB (pc' := 43) 20 rfl rfl (tgt := 45) rfl (fun h40 => ?_) (fun h40 => ?_) | refine z_if_neN (pc' := 43) 20 rfl rfl (tgt := 45) rfl (by omega) (fun h40 => ?_) (fun h40 => ?_) | refine z_if_ne (pc' := 43) 20 rfl rfl (tgt := 45) rfl (fun h40 => ?_) (fun h40 => ?_)
          · obtain ⟨x1, hx0, hx1, rfl⟩ := z_wi h4 (by decide) (by decide)
            obtain ⟨v1, hv0, hv1, rfl⟩ := z_wi h40 (by decide) (by decide)
            have hyk : y = nI 1 := h33
            subst hyk
            refine z_al0 (pc' := 46) 23 rfl rfl ?_
            refine z_getf (pc' := 49) 24 rfl rfl f_Wb_57_11 (by first | exact phe_84 | exact phe_85 | exact phe_86 | (rw [phe_o (by decide)]; assumption)) (by rfl) ?_
            refine z_il1 (pc' := 50) 25 rfl rfl ?_
            refine z_il2 (pc' := 51) 26 rfl rfl ?_
            refine z_iast (pc' := 52) 27 rfl rfl (by first | exact phe_84 | exact phe_85 | exact phe_86 | (rw [phe_o (by decide)]; assumption)) (by omega) (by decide) ?_
            rw [phe_s84]
            refine z_il2 (pc' := 53) 28 rfl rfl ?_
            refine z_if_ne_t 29 rfl (tgt := 63) rfl h17 ?_
            refine z_il2 (pc' := 64) 35 rfl rfl ?_
            refine z_iconst (v := nI 1) (by decide) (pc' := 65) 36 rfl rfl ?_
            refine z_icmp_ne_f (pc' := 68) 37 rfl rfl (tgt := 74) rfl h33 ?_
            refine z_al0 (pc' := 69) 38 rfl rfl ?_
            refine z_il1 (pc' := 70) 39 rfl rfl ?_
            refine z_il3 (pc' := 71) 40 rfl rfl ?_
            refine z_callV0 (pc' := 74) 41 rfl rfl k_Wb_291 (by first | exact phe_84 | exact phe_85 | exact phe_86 | (rw [phe_o (by decide)]; assumption)) (c_Wb_putRow hsh hob0 hx1 hv1) (by decide) (Nat.le_refl _) (Nat.le_refl _) rfl rfl (Nat.le_of_ble_eq_true rfl) ?_
            
            by_cases hz : τ.1 v1 = 0
            · rw [if_pos hz]
              refine z_iconst (v := nI 1) (by decide) (pc' := 75) 42 rfl rfl ?_
              exact z_ireturn 43 rfl rfl (by first | rfl | exact zbo_nar) rfl rfl (by rw [phe_h2 (by rw [upd_upd])]; show cKh μ _ _ _; rw [f_shelf, if_pos ⟨h4, h13, fun z => absurd z h17, fun _ => h40⟩, tN_n (show x1 < 2 ^ 31 by omega), nwS, if_neg h17, if_pos h33, tN_n (show v1 < 2 ^ 31 by omega), if_pos hz]; exact cKh_of (updH9 rfl) (iH_2 hH))
            · rw [if_neg hz]
              refine z_iconst (v := nI 1) (by decide) (pc' := 75) 42 rfl rfl ?_
              exact z_ireturn 43 rfl rfl (by first | rfl | exact zbo_nar) rfl rfl (by show cKh μ _ _ _; rw [f_shelf, if_pos ⟨h4, h13, fun z => absurd z h17, fun _ => h40⟩, tN_n (show x1 < 2 ^ 31 by omega), nwS, if_neg h17, if_pos h33, tN_n (show v1 < 2 ^ 31 by omega), if_neg hz]; exact cKh_of (updH9 rfl) (iH_1 hH))
          · refine z_iconst (v := (-1)) (by decide) (pc' := 44) 21 rfl rfl ?_
            exact z_ireturn 22 rfl rfl (by first | rfl | exact zbo_nar) rfl rfl (by show cKh μ _ _ _; rw [f_shelf, if_neg (fun z => h40 (z.2.2.2 h33))]; exact cKh_of rfl hH)
      · refine z_al0 (pc' := 21) 10 rfl rfl ?_
        refine z_getf (pc' := 24) 11 rfl rfl f_Wb_10_11 (by first | exact phe_84 | exact phe_85 | exact phe_86 | (rw [phe_o (by decide)]; assumption)) (by rfl) ?_
        refine z_il3 (pc' := 25) 12 rfl rfl ?_
        refine z_callV1 (pc' := 28) 13 rfl rfl k_Wb_84 (by first | exact phe_84 | exact phe_85 | exact phe_86 | (rw [phe_o (by decide)]; assumption)) (c_Co_hasGirl (isCo_fr h1 (fun i hi => phe_o (by omega))) hi _) (by decide) (Nat.le_refl _) (Nat.le_refl _) rfl rfl (Nat.le_of_ble_eq_true rfl) ?_
        first | refine z_if_eqB (pc' := 31) 14 rfl rfl (tgt := 43) rfl (fun h28 => ?_) (fun h28 => ?_) | refine z_if_eqN (pc' := 31) 14 rfl rfl (tgt := 43) rfl (by omega) (fun h28 => ?_) (fun h28 => ?_) | refine z_if_eq (pc' := 31) 14 rfl rfl (tgt := 43) rfl (fun h28 => ?_) (fun h28 => ?_)
        · refine z_iconst (v := (-1)) (by decide) (pc' := 44) 21 rfl rfl ?_
          exact z_ireturn 22 rfl rfl (by first | rfl | exact zbo_nar) rfl rfl (by show cKh μ _ _ _; rw [f_shelf, if_neg (fun z => h28 (z.2.2.1 h17))]; exact cKh_of rfl hH)
        · refine z_il2 (pc' := 32) 15 rfl rfl ?_
          refine z_iconst (v := nI 1) (by decide) (pc' := 33) 16 rfl rfl ?_
          refine z_icmp_ne_t 17 rfl (tgt := 45) rfl (by rw [h17]; decide) ?_
          obtain ⟨x1, hx0, hx1, rfl⟩ := z_wi h4 (by decide) (by decide)
          have hyk : y = nI 0 := h17
          subst hyk
          refine z_al0 (pc' := 46) 23 rfl rfl ?_
          refine z_getf (pc' := 49) 24 rfl rfl f_Wb_57_11 (by first | exact phe_84 | exact phe_85 | exact phe_86 | (rw [phe_o (by decide)]; assumption)) (by rfl) ?_
          refine z_il1 (pc' := 50) 25 rfl rfl ?_
          refine z_il2 (pc' := 51) 26 rfl rfl ?_
          refine z_iast (pc' := 52) 27 rfl rfl (by first | exact phe_84 | exact phe_85 | exact phe_86 | (rw [phe_o (by decide)]; assumption)) (by omega) (by decide) ?_
          rw [phe_s84]
          refine z_il2 (pc' := 53) 28 rfl rfl ?_
          refine z_if_ne_f (pc' := 56) 29 rfl rfl (tgt := 63) rfl h17 ?_
          refine z_al0 (pc' := 57) 30 rfl rfl ?_
          refine z_getf (pc' := 60) 31 rfl rfl f_Wb_60_11 (by first | exact phe_84 | exact phe_85 | exact phe_86 | (rw [phe_o (by decide)]; assumption)) (by rfl) ?_
          refine z_il1 (pc' := 61) 32 rfl rfl ?_
          refine z_il3 (pc' := 62) 33 rfl rfl ?_
          refine z_iast (pc' := 63) 34 rfl rfl (by first | exact phe_84 | exact phe_85 | exact phe_86 | (rw [phe_o (by decide)]; assumption)) (by omega) (by decide) ?_
          rw [phe_s85]
          refine z_il2 (pc' := 64) 35 rfl rfl ?_
          refine z_iconst (v := nI 1) (by decide) (pc' := 65) 36 rfl rfl ?_
          refine z_icmp_ne_t 37 rfl (tgt := 74) rfl (by rw [h17]; decide) ?_
          refine z_iconst (v := nI 1) (by decide) (pc' := 75) 42 rfl rfl ?_
          exact z_ireturn 43 rfl rfl (by first | rfl | exact zbo_nar) rfl rfl (by show cKh μ _ _ _; rw [f_shelf, if_pos ⟨h4, h13, fun _ => h28, fun z => absurd (h17.symm.trans z) (by decide)⟩, tN_n (show x1 < 2 ^ 31 by omega), nwS, if_pos h17]; exact cKh_of (updH9 rfl) (iH_0 hH))
theorem isHe_fr {μ μ' : Nat → va_E} {σ : zσ} (h : isHe μ σ) (hf : ∀ i, 84 ≤ i → i ≤ 86 → μ' i = μ i) : isHe μ' σ := by
  obtain ⟨nu, ss, h1, h2, h3, h4⟩ := h
  exact ⟨nu, ss, by rw [hf _ (by decide) (by decide)]; exact h1, by rw [hf _ (by decide) (by decide)]; exact h2, by rw [hf _ (by decide) (by decide)]; exact h3, h4⟩
theorem hld_le {S : Nat → Nat → Nat} {σ : zσ} {nu ss : Nat → Int32} (h : iH σ nu ss) (x : Nat) : hld S σ x ≤ 2 := by
  unfold hld
  split
  · exact Nat.le_refl _
  · exact (h x).1
theorem hld_0 {S : Nat → Nat → Nat} {σ : zσ} {x : Nat} (h : hld S σ x = 0) : (σ x).1 = 0 ∧ 0 ≤ (σ x).2.1 ∧ (σ x).2.1 < nI (S 0 0) := by
  unfold hld at h
  split at h
  · exact absurd h (by decide)
  · rename_i e
    exact ⟨h, Classical.byContradiction (fun z => e ⟨h, z⟩)⟩
theorem hld_1 {S : Nat → Nat → Nat} {σ : zσ} {x : Nat} (h2 : hld S σ x ≤ 2) (h : hld S σ x ≠ 2) (h0 : hld S σ x ≠ 0) : (σ x).1 = 1 := by
  unfold hld at h h0 h2
  split at h
  · exact absurd rfl h
  · rename_i e
    rw [if_neg e] at h0 h2
    omega
set_option maxHeartbeats 4000000 in
set_option maxRecDepth 100000 in
theorem c_Wb_taken {G : zG} {n u : Nat} {μ : Nat → va_E} {κ : zκ} {σ : zσ} {kp : Int32} {ac : Value} (h : cst μ κ) (hhe : isHe μ σ) (hob : isOb μ kp ac)  (x y : Int32) :
    zMet G 2 M_Wb_taken [.ref 4, .int x, .int y] n u μ n u (cK μ (f_taken κ σ x y, κ)) := by
  obtain ⟨S, mo, pr, fa, sc, ch, rc, D⟩ := κ
  have hst := h
  obtain ⟨h1, ⟨cs, q, h2⟩, ⟨β, its, h3, h3a, h3b⟩, ⟨c23, h4⟩, h5⟩ := h
  have hk5 := h5
  obtain ⟨hi, hx, hmo, hrc⟩ := h5
  have hi0 := hi.1
  have hi1 := hi.2.1
  have hi2 := hi.2.2.1
  have hi3 := hi.2.2.2.2.1
  have hhe0 := hhe
  obtain ⟨nu, ss, h84, h85, h86, hH⟩ := hhe
  have h51 := h1.1
  have hh := hld_le (S := S) hH
  refine z_start (lv := [.ref 4, .int x, .int y, .retAddr 0, .retAddr 0, .retAddr 0]) K_Wb_taken rfl rfl (Nat.le_refl _) (Nat.le_refl _) (Nat.le_of_ble_eq_true rfl) rfl ?_
  have hob0 := hob
  unfold isOb at hob
  refine z_mu (pcc_id h1 h2).symm ?_
  refine z_il2 (pc' := 1) 0 rfl rfl ?_
  refine z_iconst (v := nI 0) (by decide) (pc' := 2) 1 rfl rfl ?_
  refine z_iconst (v := nI 5) (by decide) (pc' := 3) 2 rfl rfl ?_
  refine z_callS1 (pc' := 6) 3 rfl rfl k_Wb_72 (c_Wb_within _ _ _) (by decide) (Nat.le_refl _) (Nat.le_refl _) rfl rfl (Nat.le_of_ble_eq_true rfl) ?_
  refine z_is3 rfl rfl (pc' := 7) 4 rfl rfl ?_
  refine z_il1 (pc' := 8) 5 rfl rfl ?_
  refine z_callS1 (pc' := 11) 6 rfl rfl k_Wb_288 (c_Wb_isShelf _) (by decide) (Nat.le_refl _) (Nat.le_refl _) rfl rfl (Nat.le_of_ble_eq_true rfl) ?_
  first | refine z_if_eqB (pc' := 14) 7 rfl rfl (tgt := 29) rfl (fun h11 => ?_) (fun h11 => ?_) | refine z_if_eqN (pc' := 14) 7 rfl rfl (tgt := 29) rfl (by omega) (fun h11 => ?_) (fun h11 => ?_) | refine z_if_eq (pc' := 14) 7 rfl rfl (tgt := 29) rfl (fun h11 => ?_) (fun h11 => ?_)
  · refine z_iconst (v := (-1)) (by decide) (pc' := 30) 15 rfl rfl ?_
    exact z_ireturn 16 rfl rfl (by first | rfl | exact zbo_nar) rfl rfl (by show cK μ _ _ _; rw [f_taken, if_neg (fun z => h11 z.1)]; exact cK_of hst rfl rfl hk5)
  · refine z_il3 (pc' := 15) 8 rfl rfl ?_
    first | refine z_if_neB (pc' := 18) 9 rfl rfl (tgt := 31) rfl (fun h15 => ?_) (fun h15 => ?_) | refine z_if_neN (pc' := 18) 9 rfl rfl (tgt := 31) rfl (by omega) (fun h15 => ?_) (fun h15 => ?_) | refine z_if_ne (pc' := 18) 9 rfl rfl (tgt := 31) rfl (fun h15 => ?_) (fun h15 => ?_)
    · have h4x := h11
      obtain ⟨x1, hx0, hx1, rfl⟩ := z_wi h11 (by decide) (by decide)
      have hyy : (nI 0 ≤ y ∧ y ≤ nI 5) ∨ (nI 10 ≤ y ∧ y ≤ nI 14) := Or.inl h15
      have hh1 := hh x1
      refine z_al0 (pc' := 32) 17 rfl rfl ?_
      refine z_il1 (pc' := 33) 18 rfl rfl ?_
      refine z_callV1 (pc' := 36) 19 rfl rfl k_Wb_295 (by first | exact pcc_5 | exact pcc_6 | exact pcc_7 | exact pcc_8 | exact pcc_9 | exact pcc_10 | exact pcc_11 | exact pcc_12 | exact pcc_13 | exact pcc_14 | exact pcc_15 | exact pcc_22 | (rw [pcc_o (by decide)]; assumption)) (c_Wb_heldOn isCo_pcc hi (isHe_fr hhe0 (fun i a b => pcc_o (by omega))) (isOb_fr hob0 (pcc_o (by decide))) hx1) (by decide) (Nat.le_refl _) (Nat.le_refl _) rfl rfl (Nat.le_of_ble_eq_true rfl) ?_
      refine z_is4 rfl rfl (pc' := 38) 20 rfl rfl ?_
      refine z_il4 (pc' := 40) 21 rfl rfl ?_
      refine z_iconst (v := nI 2) (by decide) (pc' := 41) 22 rfl rfl ?_
      first | refine z_icmp_neN (pc' := 44) 23 rfl rfl (tgt := 47) rfl (by omega) (by omega) (fun h41 => ?_) (fun h41 => ?_) | refine z_icmp_ne (pc' := 44) 23 rfl rfl (tgt := 47) rfl (fun h41 => ?_) (fun h41 => ?_)
      · refine z_il4 (pc' := 49) 26 rfl rfl ?_
        first | refine z_if_neB (pc' := 52) 27 rfl rfl (tgt := 85) rfl (fun h49 => ?_) (fun h49 => ?_) | refine z_if_neN (pc' := 52) 27 rfl rfl (tgt := 85) rfl (by omega) (fun h49 => ?_) (fun h49 => ?_) | refine z_if_ne (pc' := 52) 27 rfl rfl (tgt := 85) rfl (fun h49 => ?_) (fun h49 => ?_)
        · have hq := hld_1 hh1 h41 h49
          refine z_al0 (pc' := 86) 45 rfl rfl ?_
          refine z_getf (pc' := 89) 46 rfl rfl f_Wb_63_11 (by first | exact pcc_5 | exact pcc_6 | exact pcc_7 | exact pcc_8 | exact pcc_9 | exact pcc_10 | exact pcc_11 | exact pcc_12 | exact pcc_13 | exact pcc_14 | exact pcc_15 | exact pcc_22 | (rw [pcc_o (by decide)]; assumption)) (by rfl) ?_
          refine z_il1 (pc' := 90) 47 rfl rfl ?_
          refine z_iald (pc' := 91) 48 rfl rfl (by first | exact pcc_5 | exact pcc_6 | exact pcc_7 | exact pcc_8 | exact pcc_9 | exact pcc_10 | exact pcc_11 | exact pcc_12 | exact pcc_13 | exact pcc_14 | exact pcc_15 | exact pcc_22 | (rw [pcc_o (by decide)]; assumption)) (by omega) (by decide) ?_
          rw [((hH x1).2.2 hq).1]
          refine z_il2 (pc' := 92) 49 rfl rfl ?_
          refine z_bipush (v := nI 10) (by decide) (pc' := 94) 50 rfl rfl ?_
          refine z_isub (pc' := 95) 51 rfl rfl ?_
          first | refine z_icmp_ne (pc' := 98) 52 rfl rfl (tgt := 102) rfl (fun h95 => ?_) (fun h95 => ?_)
          · refine z_iconst (v := nI 0) (by decide) (pc' := 103) 55 rfl rfl ?_
            refine z_is5 rfl rfl (pc' := 105) 56 rfl rfl ?_
            refine z_il5 (pc' := 107) 57 rfl rfl ?_
            refine z_if_eq_t 58 rfl (tgt := 119) rfl rfl ?_
            refine z_bipush (v := (-13)) (by decide) (pc' := 121) 64 rfl rfl ?_
            exact z_ireturn 65 rfl rfl (by first | rfl | exact zbo_nar) rfl rfl (by show cK μ _ _ _; rw [f_taken, if_pos ⟨h4x, hyy⟩, tN_n (show x1 < 2 ^ 31 by omega), if_neg h41, if_neg h49, if_neg h95]; exact cK_of hst rfl rfl hk5)
          · refine z_iconst (v := nI 1) (by decide) (pc' := 99) 53 rfl rfl ?_
            refine z_goto 54 rfl (tgt := 103) rfl ?_
            refine z_is5 rfl rfl (pc' := 105) 56 rfl rfl ?_
            refine z_il5 (pc' := 107) 57 rfl rfl ?_
            refine z_if_eq_f (pc' := 110) 58 rfl rfl (tgt := 119) rfl (by decide) ?_
            have hnu : nu x1 = (σ x1).2.2 := ((hH x1).2.2 hq).2
            refine z_al0 (pc' := 111) 59 rfl rfl ?_
            refine z_getf (pc' := 114) 60 rfl rfl f_Wb_60_11 (by first | exact pcc_5 | exact pcc_6 | exact pcc_7 | exact pcc_8 | exact pcc_9 | exact pcc_10 | exact pcc_11 | exact pcc_12 | exact pcc_13 | exact pcc_14 | exact pcc_15 | exact pcc_22 | (rw [pcc_o (by decide)]; assumption)) (by rfl) ?_
            refine z_il1 (pc' := 115) 61 rfl rfl ?_
            refine z_iald (pc' := 116) 62 rfl rfl (by first | exact pcc_5 | exact pcc_6 | exact pcc_7 | exact pcc_8 | exact pcc_9 | exact pcc_10 | exact pcc_11 | exact pcc_12 | exact pcc_13 | exact pcc_14 | exact pcc_15 | exact pcc_22 | (rw [pcc_o (by decide)]; assumption)) (by omega) (by decide) ?_
            rw [hnu]
            refine z_goto 63 rfl (tgt := 121) rfl ?_
            exact z_ireturn 65 rfl rfl (by first | rfl | exact zbo_nar) rfl rfl (by show cK μ _ _ _; rw [f_taken, if_pos ⟨h4x, hyy⟩, tN_n (show x1 < 2 ^ 31 by omega), if_neg h41, if_neg h49, if_pos h95]; exact cK_of hst rfl rfl hk5)
        · refine z_il3 (pc' := 53) 28 rfl rfl ?_
          refine z_if_eq_f (pc' := 56) 29 rfl rfl (tgt := 81) rfl (by rw [zbo_t h15]; decide) ?_
          have hq := hld_0 h49
          obtain ⟨g1, hg1, eg⟩ := z_in hq.2 (by omega)
          obtain ⟨y1, hy0, hy1, rfl⟩ := z_wi h15 (by decide) (by decide)
          refine z_al0 (pc' := 57) 30 rfl rfl ?_
          refine z_getf (pc' := 60) 31 rfl rfl f_Wb_10_11 (by first | exact pcc_5 | exact pcc_6 | exact pcc_7 | exact pcc_8 | exact pcc_9 | exact pcc_10 | exact pcc_11 | exact pcc_12 | exact pcc_13 | exact pcc_14 | exact pcc_15 | exact pcc_22 | (rw [pcc_o (by decide)]; assumption)) (by rfl) ?_
          refine z_getr (pc' := 63) 32 rfl rfl f_Wb_88_3 (by first | exact pcc_5 | exact pcc_6 | exact pcc_7 | exact pcc_8 | exact pcc_9 | exact pcc_10 | exact pcc_11 | exact pcc_12 | exact pcc_13 | exact pcc_14 | exact pcc_15 | exact pcc_22 | (rw [pcc_o (by decide)]; assumption)) (by rfl) ?_
          refine z_al0 (pc' := 64) 33 rfl rfl ?_
          refine z_getf (pc' := 67) 34 rfl rfl f_Wb_60_11 (by first | exact pcc_5 | exact pcc_6 | exact pcc_7 | exact pcc_8 | exact pcc_9 | exact pcc_10 | exact pcc_11 | exact pcc_12 | exact pcc_13 | exact pcc_14 | exact pcc_15 | exact pcc_22 | (rw [pcc_o (by decide)]; assumption)) (by rfl) ?_
          refine z_il1 (pc' := 68) 35 rfl rfl ?_
          refine z_iald (pc' := 69) 36 rfl rfl (by first | exact pcc_5 | exact pcc_6 | exact pcc_7 | exact pcc_8 | exact pcc_9 | exact pcc_10 | exact pcc_11 | exact pcc_12 | exact pcc_13 | exact pcc_14 | exact pcc_15 | exact pcc_22 | (rw [pcc_o (by decide)]; assumption)) (by omega) (by decide) ?_
          rw [(hH x1).2.1 hq.1, eg]
          refine z_iald (pc' := 70) 37 rfl rfl (by first | exact pcc_5 | exact pcc_6 | exact pcc_7 | exact pcc_8 | exact pcc_9 | exact pcc_10 | exact pcc_11 | exact pcc_12 | exact pcc_13 | exact pcc_14 | exact pcc_15 | exact pcc_22 | (rw [pcc_o (by decide)]; assumption)) (by omega) (by decide) ?_
          refine z_il2 (pc' := 71) 38 rfl rfl ?_
          refine z_callS1 (pc' := 74) 39 rfl rfl k_Wb_298 (c_Wb_isUnder (hi.2.2.2.2.2 g1).1 (by omega)) (by decide) (Nat.le_refl _) (Nat.le_refl _) rfl rfl (Nat.le_of_ble_eq_true rfl) ?_
          first | refine z_if_eqB (pc' := 77) 40 rfl rfl (tgt := 81) rfl (fun h74 => ?_) (fun h74 => ?_) | refine z_if_eqN (pc' := 77) 40 rfl rfl (tgt := 81) rfl (by omega) (fun h74 => ?_) (fun h74 => ?_) | refine z_if_eq (pc' := 77) 40 rfl rfl (tgt := 81) rfl (fun h74 => ?_) (fun h74 => ?_)
          · refine z_iconst (v := nI 0) (by decide) (pc' := 82) 43 rfl rfl ?_
            refine z_goto 44 rfl (tgt := 103) rfl ?_
            refine z_is5 rfl rfl (pc' := 105) 56 rfl rfl ?_
            refine z_il5 (pc' := 107) 57 rfl rfl ?_
            refine z_if_eq_t 58 rfl (tgt := 119) rfl rfl ?_
            refine z_bipush (v := (-13)) (by decide) (pc' := 121) 64 rfl rfl ?_
            exact z_ireturn 65 rfl rfl (by first | rfl | exact zbo_nar) rfl rfl (by show cK μ _ _ _; rw [f_taken, if_pos ⟨h4x, hyy⟩, tN_n (show x1 < 2 ^ 31 by omega), if_neg h41, if_pos h49, if_neg (fun z => h74 (by have := z.2; rw [eg, tN_n (show g1 < 2 ^ 31 by omega), tN_n (show y1 < 2 ^ 31 by omega)] at this; exact this))]; exact cK_of hst rfl rfl hk5)
          · refine z_iconst (v := nI 1) (by decide) (pc' := 78) 41 rfl rfl ?_
            refine z_goto 42 rfl (tgt := 103) rfl ?_
            refine z_is5 rfl rfl (pc' := 105) 56 rfl rfl ?_
            refine z_il5 (pc' := 107) 57 rfl rfl ?_
            refine z_if_eq_f (pc' := 110) 58 rfl rfl (tgt := 119) rfl (by decide) ?_
            have hnu : nu x1 = (σ x1).2.1 := (hH x1).2.1 (hld_0 h49).1
            refine z_al0 (pc' := 111) 59 rfl rfl ?_
            refine z_getf (pc' := 114) 60 rfl rfl f_Wb_60_11 (by first | exact pcc_5 | exact pcc_6 | exact pcc_7 | exact pcc_8 | exact pcc_9 | exact pcc_10 | exact pcc_11 | exact pcc_12 | exact pcc_13 | exact pcc_14 | exact pcc_15 | exact pcc_22 | (rw [pcc_o (by decide)]; assumption)) (by rfl) ?_
            refine z_il1 (pc' := 115) 61 rfl rfl ?_
            refine z_iald (pc' := 116) 62 rfl rfl (by first | exact pcc_5 | exact pcc_6 | exact pcc_7 | exact pcc_8 | exact pcc_9 | exact pcc_10 | exact pcc_11 | exact pcc_12 | exact pcc_13 | exact pcc_14 | exact pcc_15 | exact pcc_22 | (rw [pcc_o (by decide)]; assumption)) (by omega) (by decide) ?_
            rw [hnu]
            refine z_goto 63 rfl (tgt := 121) rfl ?_
            exact z_ireturn 65 rfl rfl (by first | rfl | exact zbo_nar) rfl rfl (by show cK μ _ _ _; rw [f_taken, if_pos ⟨h4x, hyy⟩, tN_n (show x1 < 2 ^ 31 by omega), if_neg h41, if_pos h49, if_pos ⟨h15, by rw [eg, tN_n (show g1 < 2 ^ 31 by omega), tN_n (show y1 < 2 ^ 31 by omega)]; exact h74⟩]; exact cK_of hst rfl rfl hk5)
      · refine z_bipush (v := (-11)) (by decide) (pc' := 46) 24 rfl rfl ?_
        exact z_ireturn 25 rfl rfl (by first | rfl | exact zbo_nar) rfl rfl (by show cK μ _ _ _; rw [f_taken, if_pos ⟨h4x, hyy⟩, tN_n (show x1 < 2 ^ 31 by omega), if_pos h41]; exact cK_of hst rfl rfl hk5)
    · refine z_il2 (pc' := 19) 10 rfl rfl ?_
      refine z_bipush (v := nI 10) (by decide) (pc' := 21) 11 rfl rfl ?_
      refine z_bipush (v := nI 14) (by decide) (pc' := 23) 12 rfl rfl ?_
      refine z_callS1 (pc' := 26) 13 rfl rfl k_Wb_72 (c_Wb_within _ _ _) (by decide) (Nat.le_refl _) (Nat.le_refl _) rfl rfl (Nat.le_of_ble_eq_true rfl) ?_
      first | refine z_if_neB (pc' := 29) 14 rfl rfl (tgt := 31) rfl (fun h26 => ?_) (fun h26 => ?_) | refine z_if_neN (pc' := 29) 14 rfl rfl (tgt := 31) rfl (by omega) (fun h26 => ?_) (fun h26 => ?_) | refine z_if_ne (pc' := 29) 14 rfl rfl (tgt := 31) rfl (fun h26 => ?_) (fun h26 => ?_)
      · have h4x := h11
        obtain ⟨x1, hx0, hx1, rfl⟩ := z_wi h11 (by decide) (by decide)
        have hyy : (nI 0 ≤ y ∧ y ≤ nI 5) ∨ (nI 10 ≤ y ∧ y ≤ nI 14) := Or.inr h26
        have hh1 := hh x1
        refine z_al0 (pc' := 32) 17 rfl rfl ?_
        refine z_il1 (pc' := 33) 18 rfl rfl ?_
        refine z_callV1 (pc' := 36) 19 rfl rfl k_Wb_295 (by first | exact pcc_5 | exact pcc_6 | exact pcc_7 | exact pcc_8 | exact pcc_9 | exact pcc_10 | exact pcc_11 | exact pcc_12 | exact pcc_13 | exact pcc_14 | exact pcc_15 | exact pcc_22 | (rw [pcc_o (by decide)]; assumption)) (c_Wb_heldOn isCo_pcc hi (isHe_fr hhe0 (fun i a b => pcc_o (by omega))) (isOb_fr hob0 (pcc_o (by decide))) hx1) (by decide) (Nat.le_refl _) (Nat.le_refl _) rfl rfl (Nat.le_of_ble_eq_true rfl) ?_
        refine z_is4 rfl rfl (pc' := 38) 20 rfl rfl ?_
        refine z_il4 (pc' := 40) 21 rfl rfl ?_
        refine z_iconst (v := nI 2) (by decide) (pc' := 41) 22 rfl rfl ?_
        first | refine z_icmp_neN (pc' := 44) 23 rfl rfl (tgt := 47) rfl (by omega) (by omega) (fun h41 => ?_) (fun h41 => ?_) | refine z_icmp_ne (pc' := 44) 23 rfl rfl (tgt := 47) rfl (fun h41 => ?_) (fun h41 => ?_)
        · refine z_il4 (pc' := 49) 26 rfl rfl ?_
          first | refine z_if_neB (pc' := 52) 27 rfl rfl (tgt := 85) rfl (fun h49 => ?_) (fun h49 => ?_) | refine z_if_neN (pc' := 52) 27 rfl rfl (tgt := 85) rfl (by omega) (fun h49 => ?_) (fun h49 => ?_) | refine z_if_ne (pc' := 52) 27 rfl rfl (tgt := 85) rfl (fun h49 => ?_) (fun h49 => ?_)
          · have hq := hld_1 hh1 h41 h49
            refine z_al0 (pc' := 86) 45 rfl rfl ?_
            refine z_getf (pc' := 89) 46 rfl rfl f_Wb_63_11 (by first | exact pcc_5 | exact pcc_6 | exact pcc_7 | exact pcc_8 | exact pcc_9 | exact pcc_10 | exact pcc_11 | exact pcc_12 | exact pcc_13 | exact pcc_14 | exact pcc_15 | exact pcc_22 | (rw [pcc_o (by decide)]; assumption)) (by rfl) ?_
            refine z_il1 (pc' := 90) 47 rfl rfl ?_
            refine z_iald (pc' := 91) 48 rfl rfl (by first | exact pcc_5 | exact pcc_6 | exact pcc_7 | exact pcc_8 | exact pcc_9 | exact pcc_10 | exact pcc_11 | exact pcc_12 | exact pcc_13 | exact pcc_14 | exact pcc_15 | exact pcc_22 | (rw [pcc_o (by decide)]; assumption)) (by omega) (by decide) ?_
            rw [((hH x1).2.2 hq).1]
            refine z_il2 (pc' := 92) 49 rfl rfl ?_
            refine z_bipush (v := nI 10) (by decide) (pc' := 94) 50 rfl rfl ?_
            refine z_isub (pc' := 95) 51 rfl rfl ?_
            first | refine z_icmp_ne (pc' := 98) 52 rfl rfl (tgt := 102) rfl (fun h95 => ?_) (fun h95 => ?_)
            · refine z_iconst (v := nI 0) (by decide) (pc' := 103) 55 rfl rfl ?_
              refine z_is5 rfl rfl (pc' := 105) 56 rfl rfl ?_
              refine z_il5 (pc' := 107) 57 rfl rfl ?_
              refine z_if_eq_t 58 rfl (tgt := 119) rfl rfl ?_
              refine z_bipush (v := (-13)) (by decide) (pc' := 121) 64 rfl rfl ?_
              exact z_ireturn 65 rfl rfl (by first | rfl | exact zbo_nar) rfl rfl (by show cK μ _ _ _; rw [f_taken, if_pos ⟨h4x, hyy⟩, tN_n (show x1 < 2 ^ 31 by omega), if_neg h41, if_neg h49, if_neg h95]; exact cK_of hst rfl rfl hk5)
            · refine z_iconst (v := nI 1) (by decide) (pc' := 99) 53 rfl rfl ?_
              refine z_goto 54 rfl (tgt := 103) rfl ?_
              refine z_is5 rfl rfl (pc' := 105) 56 rfl rfl ?_
              refine z_il5 (pc' := 107) 57 rfl rfl ?_
              refine z_if_eq_f (pc' := 110) 58 rfl rfl (tgt := 119) rfl (by decide) ?_
              have hnu : nu x1 = (σ x1).2.2 := ((hH x1).2.2 hq).2
              refine z_al0 (pc' := 111) 59 rfl rfl ?_
              refine z_getf (pc' := 114) 60 rfl rfl f_Wb_60_11 (by first | exact pcc_5 | exact pcc_6 | exact pcc_7 | exact pcc_8 | exact pcc_9 | exact pcc_10 | exact pcc_11 | exact pcc_12 | exact pcc_13 | exact pcc_14 | exact pcc_15 | exact pcc_22 | (rw [pcc_o (by decide)]; assumption)) (by rfl) ?_
              refine z_il1 (pc' := 115) 61 rfl rfl ?_
              refine z_iald (pc' := 116) 62 rfl rfl (by first | exact pcc_5 | exact pcc_6 | exact pcc_7 | exact pcc_8 | exact pcc_9 | exact pcc_10 | exact pcc_11 | exact pcc_12 | exact pcc_13 | exact pcc_14 | exact pcc_15 | exact pcc_22 | (rw [pcc_o (by decide)]; assumption)) (by omega) (by decide) ?_
              rw [hnu]
              refine z_goto 63 rfl (tgt := 121) rfl ?_
              exact z_ireturn 65 rfl rfl (by first | rfl | exact zbo_nar) rfl rfl (by show cK μ _ _ _; rw [f_taken, if_pos ⟨h4x, hyy⟩, tN_n (show x1 < 2 ^ 31 by omega), if_neg h41, if_neg h49, if_pos h95]; exact cK_of hst rfl rfl hk5)
          · refine z_il3 (pc' := 53) 28 rfl rfl ?_
            refine z_if_eq_t 29 rfl (tgt := 81) rfl (by rw [zbo_f h15]; rfl) ?_
            refine z_iconst (v := nI 0) (by decide) (pc' := 82) 43 rfl rfl ?_
            refine z_goto 44 rfl (tgt := 103) rfl ?_
            refine z_is5 rfl rfl (pc' := 105) 56 rfl rfl ?_
            refine z_il5 (pc' := 107) 57 rfl rfl ?_
            refine z_if_eq_t 58 rfl (tgt := 119) rfl rfl ?_
            refine z_bipush (v := (-13)) (by decide) (pc' := 121) 64 rfl rfl ?_
            exact z_ireturn 65 rfl rfl (by first | rfl | exact zbo_nar) rfl rfl (by show cK μ _ _ _; rw [f_taken, if_pos ⟨h4x, hyy⟩, tN_n (show x1 < 2 ^ 31 by omega), if_neg h41, if_pos h49, if_neg (fun z => h15 z.1)]; exact cK_of hst rfl rfl hk5)
        · refine z_bipush (v := (-11)) (by decide) (pc' := 46) 24 rfl rfl ?_
          exact z_ireturn 25 rfl rfl (by first | rfl | exact zbo_nar) rfl rfl (by show cK μ _ _ _; rw [f_taken, if_pos ⟨h4x, hyy⟩, tN_n (show x1 < 2 ^ 31 by omega), if_pos h41]; exact cK_of hst rfl rfl hk5)
      · refine z_iconst (v := (-1)) (by decide) (pc' := 30) 15 rfl rfl ?_
        exact z_ireturn 16 rfl rfl (by first | rfl | exact zbo_nar) rfl rfl (by show cK μ _ _ _; rw [f_taken, if_neg (fun z => z.2.elim h15 h26)]; exact cK_of hst rfl rfl hk5)
