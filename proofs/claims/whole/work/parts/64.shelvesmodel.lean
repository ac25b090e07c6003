/-! ===== shelves, the reference ===== -/
def isHeM (μ : Nat → va_E) (σ : zσ) : Prop := ∃ he hs : Nat → Int32, μ 102 = .inl (0, 4, .inl (fun j => nI (σ j).1)) ∧ μ 103 = .inl (0, 4, .inl he) ∧ μ 104 = .inl (0, 4, .inl hs) ∧ ∀ j, (σ j).1 ≤ 2 ∧ ((σ j).1 = 0 → he j = (σ j).2.1) ∧ ((σ j).1 = 1 → he j = (σ j).2.1 ∧ hs j = (σ j).2.2)
def jH (σ : zσ) (he hs : Nat → Int32) : Prop := ∀ j, (σ j).1 ≤ 2 ∧ ((σ j).1 = 0 → he j = (σ j).2.1) ∧ ((σ j).1 = 1 → he j = (σ j).2.1 ∧ hs j = (σ j).2.2)
def phm (ν : Nat → va_E) (ho he hs : Nat → Int32) : Nat → va_E := zu (zu (zu ν 102 (.inl (0, 4, .inl ho))) 103 (.inl (0, 4, .inl he))) 104 (.inl (0, 4, .inl hs))
section PHM
variable {ν : Nat → va_E} {ho he hs : Nat → Int32}
theorem phm_102 : phm ν ho he hs 102 = .inl (0, 4, .inl ho) := by
  unfold phm
  rw [zu_n (by decide), zu_n (by decide), zu_s]
theorem phm_103 : phm ν ho he hs 103 = .inl (0, 4, .inl he) := by
  unfold phm
  rw [zu_n (by decide), zu_s]
theorem phm_104 : phm ν ho he hs 104 = .inl (0, 4, .inl hs) := zu_s
theorem phm_o {i : Nat} (h : i < 102 ∨ 104 < i) : phm ν ho he hs i = ν i := by
  unfold phm
  rw [zu_n (by omega), zu_n (by omega), zu_n (by omega)]
theorem phm_s102 {f : Nat → Int32} : zu (phm ν ho he hs) 102 (.inl (0, 4, .inl f)) = phm ν f he hs := by
  unfold phm
  rw [zu_sw (a := 104) (b := 102) (by decide), zu_sw (a := 103) (b := 102) (by decide), zu_zu]
theorem phm_s103 {f : Nat → Int32} : zu (phm ν ho he hs) 103 (.inl (0, 4, .inl f)) = phm ν ho f hs := by
  unfold phm
  rw [zu_sw (a := 104) (b := 103) (by decide), zu_zu]
theorem phm_s104 {f : Nat → Int32} : zu (phm ν ho he hs) 104 (.inl (0, 4, .inl f)) = phm ν ho he f := by
  unfold phm
  rw [zu_zu]
theorem phm_id (h4 : ν 102 = .inl (0, 4, .inl ho)) (h5 : ν 103 = .inl (0, 4, .inl he)) (h6 : ν 104 = .inl (0, 4, .inl hs)) : phm ν ho he hs = ν := by
  unfold phm
  rw [zu_id h4, zu_id h5, zu_id h6]
end PHM
def mKh (μ : Nat → va_E) (p : Int32 × zσ) : zP := fun r μ' => r = some (.int p.1) ∧ isHeM μ' p.2 ∧ ∀ i, (i < 102 ∨ 104 < i) → μ' i = μ i
theorem mKh_of {μ : Nat → va_E} {r : Int32} {σ : zσ} {ho he hs : Nat → Int32} (h0 : ho = fun j => nI (σ j).1) (h : jH σ he hs) : mKh μ (r, σ) (some (.int r)) (phm μ ho he hs) := by
  subst h0
  exact ⟨rfl, ⟨he, hs, phm_102, phm_103, phm_104, h⟩, fun i hi => phm_o hi⟩
theorem jH_0 {σ : zσ} {he hs : Nat → Int32} (h : jH σ he hs) {x : Nat} {v b : Int32} : jH (un σ x (0, v, b)) (upd he x v) (upd hs x (nI 0)) := fun j => by
  by_cases z : j = x
  · subst z; rw [upd_at, un_s]; exact ⟨Nat.zero_le _, fun _ => rfl, fun q => absurd q (show ¬ (0 : Nat) = 1 by decide)⟩
  · rw [upd_no z, upd_no z, un_n z]; exact h j
theorem jH_1 {σ : zσ} {he hs : Nat → Int32} (h : jH σ he hs) {x : Nat} {a b : Int32} : jH (un σ x (1, a, b)) (upd he x a) (upd hs x b) := fun j => by
  by_cases z : j = x
  · subst z; rw [upd_at, upd_at, un_s]; exact ⟨show (1 : Nat) ≤ 2 by decide, fun q => absurd q (show ¬ (1 : Nat) = 0 by decide), fun _ => ⟨rfl, rfl⟩⟩
  · rw [upd_no z, upd_no z, un_n z]; exact h j
theorem jH_2 {σ : zσ} {he hs : Nat → Int32} (h : jH σ he hs) {x : Nat} {v a b c : Int32} : jH (un σ x (2, a, b)) (upd he x v) (upd hs x c) := fun j => by
  by_cases z : j = x
  · subst z; rw [un_s]; exact ⟨Nat.le_refl _, fun q => absurd q (show ¬ (2 : Nat) = 0 by decide), fun q => absurd q (show ¬ (2 : Nat) = 1 by decide)⟩
  · rw [upd_no z, upd_no z, un_n z]; exact h j
theorem y_lt6 {y : Int32} (h : nI 0 ≤ y ∧ y ≤ nI 5) : ¬ nI 6 ≤ y := fun z => absurd (Int32.le_trans z h.2) (by decide)
theorem y_ge6 {y : Int32} (h : nI 10 ≤ y ∧ y ≤ nI 14) : nI 6 ≤ y := Int32.le_trans (by decide) h.1
theorem y_n5 {y : Int32} (h : nI 10 ≤ y ∧ y ≤ nI 14) : ¬ (nI 0 ≤ y ∧ y ≤ nI 5) := fun z => absurd (Int32.le_trans h.1 z.2) (by decide)
theorem sub_10 {a y : Int32} : y = nI 10 + a ↔ a = y - nI 10 := by
  constructor
  · intro h; rw [h, Int32.add_comm, Int32.add_sub_cancel]
  · intro h; rw [h, Int32.add_comm, Int32.sub_add_cancel]
set_option maxHeartbeats 4000000 in
set_option maxRecDepth 100000 in
theorem c_Mo_hasGirl {G : zG} {n u : Nat} {ν : Nat → va_E} {s : Nat → Int32} {S : Nat → Nat → Nat} {mo : Nat} {pr fa : Nat → Nat} {sc ch : Int32} {rc : Nat} {ρ : Nat → Int32} (hi : iS S) {σ : zσ} (hhe : isHeM ν σ) {x : Nat} (hx : x ≤ 3) : zMet G 2 M_Mo_hasGirl [.ref 88, .int (nI x)] n u (pm ν s (mk S mo pr fa sc ch rc ρ)) n u (zE (some (.int (zbo ((σ x).1 = 0 ∧ 0 ≤ (σ x).2.1 ∧ (σ x).2.1 < nI (S 0 0))))) (pm ν s (mk S mo pr fa sc ch rc ρ))) := by
  obtain ⟨he, hs, h102, h103, h104, hH⟩ := hhe
  have hH1 := (hH x).1
  have hH0 := (hH x).2.1
  refine z_start (lv := [.ref 88, .int (nI x)]) K_Mo_hasGirl rfl rfl (Nat.le_refl _) (Nat.le_refl _) (Nat.le_of_ble_eq_true rfl) rfl ?_
  refine z_al0 (pc' := 1) 0 rfl rfl ?_
  refine z_getf (pc' := 4) 1 rfl rfl f_Mo_51_12 (by first | exact pm_f | exact pm_1 | (rw [pm_o (by decide)]; assumption)) (by rfl) ?_
  refine z_il1 (pc' := 5) 2 rfl rfl ?_
  refine z_iald (pc' := 6) 3 rfl rfl (by first | exact pm_f | exact pm_1 | (rw [pm_o (by decide)]; assumption)) (by omega) (by decide) ?_
  first | refine z_if_neB (pc' := 9) 4 rfl rfl (tgt := 26) rfl (fun h6 => ?_) (fun h6 => ?_) | refine z_if_neN (pc' := 9) 4 rfl rfl (tgt := 26) rfl (by omega) (fun h6 => ?_) (fun h6 => ?_) | refine z_if_ne (pc' := 9) 4 rfl rfl (tgt := 26) rfl (fun h6 => ?_) (fun h6 => ?_)
  · refine z_iconst (v := nI 0) (by decide) (pc' := 27) 14 rfl rfl ?_
    exact z_ireturn 15 rfl rfl (by first | rfl | exact zbo_nar) rfl rfl (by exact ⟨by rw [zbo_f (fun z => h6 z.1)], rfl⟩)
  · refine z_al0 (pc' := 10) 5 rfl rfl ?_
    refine z_al0 (pc' := 11) 6 rfl rfl ?_
    refine z_getf (pc' := 14) 7 rfl rfl f_Mo_54_12 (by first | exact pm_f | exact pm_1 | (rw [pm_o (by decide)]; assumption)) (by rfl) ?_
    refine z_il1 (pc' := 15) 8 rfl rfl ?_
    refine z_iald (pc' := 16) 9 rfl rfl (by first | exact pm_f | exact pm_1 | (rw [pm_o (by decide)]; assumption)) (by omega) (by decide) ?_
    rw [hH0 h6]
    refine z_callV1 (pc' := 19) 10 rfl rfl k_Mo_92 (by first | exact pm_f | exact pm_1 | (rw [pm_o (by decide)]; assumption)) (c_Mo_isGirl hi _) (by decide) (Nat.le_refl _) (Nat.le_refl _) rfl rfl (Nat.le_of_ble_eq_true rfl) ?_
    first | refine z_if_eqB (pc' := 22) 11 rfl rfl (tgt := 26) rfl (fun h19 => ?_) (fun h19 => ?_) | refine z_if_eqN (pc' := 22) 11 rfl rfl (tgt := 26) rfl (by omega) (fun h19 => ?_) (fun h19 => ?_) | refine z_if_eq (pc' := 22) 11 rfl rfl (tgt := 26) rfl (fun h19 => ?_) (fun h19 => ?_)
    · refine z_iconst (v := nI 0) (by decide) (pc' := 27) 14 rfl rfl ?_
      exact z_ireturn 15 rfl rfl (by first | rfl | exact zbo_nar) rfl rfl (by exact ⟨by rw [zbo_f (fun z => h19 z.2)], rfl⟩)
    · refine z_iconst (v := nI 1) (by decide) (pc' := 23) 12 rfl rfl ?_
      refine z_goto 13 rfl (tgt := 27) rfl ?_
      exact z_ireturn 15 rfl rfl (by first | rfl | exact zbo_nar) rfl rfl (by exact ⟨by rw [zbo_t ⟨h6, h19⟩], rfl⟩)
theorem c_Mo_isGirlA {G : zG} {n u : Nat} {μ : Nat → va_E} {s : Nat → Int32} {S : Nat → Nat → Nat} {mo : Nat} {pr fa : Nat → Nat} {sc ch : Int32} {rc : Nat} {ρ : Nat → Int32} (h0 : μ 88 = mob s) (h1 : μ 89 = .inl (0, 618, .inl (mk S mo pr fa sc ch rc ρ))) (hi : iS S) (x : Int32) : zMet G 1 M_Mo_isGirl [.ref 88, .int x] n u μ n u (zE (some (.int (zbo (0 ≤ x ∧ x < nI (S 0 0))))) μ) := by
  have h := c_Mo_isGirl (G := G) (n := n) (u := u) (ν := μ) (s := s) (mo := mo) (pr := pr) (fa := fa) (sc := sc) (ch := ch) (rc := rc) (ρ := ρ) hi x
  rw [pm_id h0 h1] at h
  exact h
set_option maxHeartbeats 4000000 in
set_option maxRecDepth 100000 in
theorem c_Mo_shelf {G : zG} {n u : Nat} {μ : Nat → va_E} {κ : zκ} {s : Nat → Int32} (h : mst μ s κ) {τ : zτ} {σ : zσ} (hsh : isShM μ τ) (hhe : isHeM μ σ) (x y v : Int32) :
    zMet G 3 M_Mo_shelf [.ref 88, .int x, .int y, .int v] n u μ n u (mKh μ (f_shelf κ τ σ x y v)) := by
  obtain ⟨S, mo, pr, fa, sc, ch, rc, D⟩ := κ
  have hst := h
  obtain ⟨⟨ρ, h1, hD⟩, h2, ⟨q93, h93⟩, ⟨q91, h91⟩, ⟨q94, h94⟩, ⟨q95, h95⟩, ⟨q96, h96⟩, ⟨q97, h97⟩, h5⟩ := h
  have hk5 := h5
  obtain ⟨hi, hx, hmo, hrc⟩ := h5
  have hi0 := hi.1
  have hi1 := hi.2.1
  have hi2 := hi.2.2.1
  have hi3 := hi.2.2.2.2.1
  obtain ⟨c0, h99, h100, h101, hr, hT⟩ := hsh
  obtain ⟨he, hs, h102, h103, h104, hH⟩ := hhe
  have h88 := h2
  unfold mob at h88
  refine z_start (lv := [.ref 88, .int x, .int y, .int v, .retAddr 0]) K_Mo_shelf rfl rfl (Nat.le_refl _) (Nat.le_refl _) (Nat.le_of_ble_eq_true rfl) rfl ?_
  refine z_mu (phm_id h102 h103 h104).symm ?_
  refine z_il1 (pc' := 1) 0 rfl rfl ?_
  refine z_callS1 (pc' := 4) 1 rfl rfl k_Mo_310 (c_Mo_isFour _) (by decide) (Nat.le_refl _) (Nat.le_refl _) rfl rfl (Nat.le_of_ble_eq_true rfl) ?_
  first | refine z_if_eqB (pc' := 7) 2 rfl rfl (tgt := 40) rfl (fun h4 => ?_) (fun h4 => ?_) | refine z_if_eqN (pc' := 7) 2 rfl rfl (tgt := 40) rfl (by omega) (fun h4 => ?_) (fun h4 => ?_) | refine z_if_eq (pc' := 7) 2 rfl rfl (tgt := 40) rfl (fun h4 => ?_) (fun h4 => ?_)
  · refine z_iconst (v := (-1)) (by decide) (pc' := 41) 20 rfl rfl ?_
    exact z_ireturn 21 rfl rfl (by first | rfl | exact zbo_nar) rfl rfl (by show mKh μ _ _ _; rw [f_shelf, if_neg (fun z => h4 z.1)]; exact mKh_of rfl hH)
  · refine z_il2 (pc' := 8) 3 rfl rfl ?_
    refine z_iconst (v := nI 0) (by decide) (pc' := 9) 4 rfl rfl ?_
    refine z_iconst (v := nI 2) (by decide) (pc' := 10) 5 rfl rfl ?_
    refine z_callS1 (pc' := 13) 6 rfl rfl k_Mo_67 (c_Mo_in _ _ _) (by decide) (Nat.le_refl _) (Nat.le_refl _) rfl rfl (Nat.le_of_ble_eq_true rfl) ?_
    first | refine z_if_eqB (pc' := 16) 7 rfl rfl (tgt := 40) rfl (fun h13 => ?_) (fun h13 => ?_) | refine z_if_eqN (pc' := 16) 7 rfl rfl (tgt := 40) rfl (by omega) (fun h13 => ?_) (fun h13 => ?_) | refine z_if_eq (pc' := 16) 7 rfl rfl (tgt := 40) rfl (fun h13 => ?_) (fun h13 => ?_)
    · refine z_iconst (v := (-1)) (by decide) (pc' := 41) 20 rfl rfl ?_
      exact z_ireturn 21 rfl rfl (by first | rfl | exact zbo_nar) rfl rfl (by show mKh μ _ _ _; rw [f_shelf, if_neg (fun z => h13 z.2.1)]; exact mKh_of rfl hH)
    · refine z_il2 (pc' := 17) 8 rfl rfl ?_
      first | refine z_if_ne (pc' := 20) 9 rfl rfl (tgt := 28) rfl (fun h17 => ?_) (fun h17 => ?_)
      · refine z_il2 (pc' := 29) 14 rfl rfl ?_
        refine z_iconst (v := nI 1) (by decide) (pc' := 30) 15 rfl rfl ?_
        first | refine z_icmp_ne (pc' := 33) 16 rfl rfl (tgt := 42) rfl (fun h30 => ?_) (fun h30 => ?_)
        · obtain ⟨x1, hx0, hx1, rfl⟩ := z_wi h4 (by decide) (by decide)
          have hyk : y = nI 2 := y_2 h13 h17 h30
          subst hyk
          refine z_il2 (pc' := 43) 22 rfl rfl ?_
          refine z_iconst (v := nI 1) (by decide) (pc' := 44) 23 rfl rfl ?_
          refine z_icmp_ne_t 24 rfl (tgt := 60) rfl h30 ?_
          refine z_iconst (v := nI 0) (by decide) (pc' := 61) 32 rfl rfl ?_
          refine z_is4 rfl rfl (pc' := 63) 33 rfl rfl ?_
          refine z_al0 (pc' := 64) 34 rfl rfl ?_
          refine z_getf (pc' := 67) 35 rfl rfl f_Mo_51_12 (by first | exact phm_102 | exact phm_103 | exact phm_104 | (rw [phm_o (by decide)]; assumption)) (by rfl) ?_
          refine z_il1 (pc' := 68) 36 rfl rfl ?_
          refine z_il2 (pc' := 69) 37 rfl rfl ?_
          refine z_iconst (v := nI 1) (by decide) (pc' := 70) 38 rfl rfl ?_
          refine z_icmp_ne_t 39 rfl (tgt := 82) rfl h30 ?_
          refine z_il2 (pc' := 83) 44 rfl rfl ?_
          refine z_iast (pc' := 84) 45 rfl rfl (by first | exact phm_102 | exact phm_103 | exact phm_104 | (rw [phm_o (by decide)]; assumption)) (by omega) (by decide) ?_
          rw [phm_s102]
          refine z_al0 (pc' := 85) 46 rfl rfl ?_
          refine z_getf (pc' := 88) 47 rfl rfl f_Mo_54_12 (by first | exact phm_102 | exact phm_103 | exact phm_104 | (rw [phm_o (by decide)]; assumption)) (by rfl) ?_
          refine z_il1 (pc' := 89) 48 rfl rfl ?_
          refine z_il4 (pc' := 91) 49 rfl rfl ?_
          refine z_if_eq_t 50 rfl (tgt := 103) rfl rfl ?_
          refine z_il3 (pc' := 104) 56 rfl rfl ?_
          refine z_iast (pc' := 105) 57 rfl rfl (by first | exact phm_102 | exact phm_103 | exact phm_104 | (rw [phm_o (by decide)]; assumption)) (by omega) (by decide) ?_
          rw [phm_s103]
          refine z_al0 (pc' := 106) 58 rfl rfl ?_
          refine z_getf (pc' := 109) 59 rfl rfl f_Mo_57_12 (by first | exact phm_102 | exact phm_103 | exact phm_104 | (rw [phm_o (by decide)]; assumption)) (by rfl) ?_
          refine z_il1 (pc' := 110) 60 rfl rfl ?_
          refine z_il4 (pc' := 112) 61 rfl rfl ?_
          refine z_if_eq_t 62 rfl (tgt := 124) rfl rfl ?_
          refine z_iconst (v := nI 0) (by decide) (pc' := 125) 68 rfl rfl ?_
          refine z_iast (pc' := 126) 69 rfl rfl (by first | exact phm_102 | exact phm_103 | exact phm_104 | (rw [phm_o (by decide)]; assumption)) (by omega) (by decide) ?_
          rw [phm_s104]
          refine z_iconst (v := nI 1) (by decide) (pc' := 127) 70 rfl rfl ?_
          exact z_ireturn 71 rfl rfl (by first | rfl | exact zbo_nar) rfl rfl (by show mKh μ _ _ _; rw [f_shelf, if_pos ⟨h4, h13, fun z => absurd z h17, fun z => absurd z h30⟩, tN_n (show x1 < 2 ^ 31 by omega), nwS, if_neg h17, if_neg h30]; exact mKh_of (updH9 rfl) (jH_2 hH))
        · refine z_il3 (pc' := 34) 17 rfl rfl ?_
          refine z_callS1 (pc' := 37) 18 rfl rfl k_Mo_310 (c_Mo_isFour _) (by decide) (Nat.le_refl _) (Nat.le_refl _) rfl rfl (Nat.le_of_ble_eq_true rfl) ?_
          first | refine z_if_neB (pc' := 40) 19 rfl rfl (tgt := 42) rfl (fun h37 => ?_) (fun h37 => ?_) | refine z_if_neN (pc' := 40) 19 rfl rfl (tgt := 42) rfl (by omega) (fun h37 => ?_) (fun h37 => ?_) | refine z_if_ne (pc' := 40) 19 rfl rfl (tgt := 42) rfl (fun h37 => ?_) (fun h37 => ?_)
          · obtain ⟨x1, hx0, hx1, rfl⟩ := z_wi h4 (by decide) (by decide)
            obtain ⟨v1, hv0, hv1, rfl⟩ := z_wi h37 (by decide) (by decide)
            have hyk : y = nI 1 := h30
            subst hyk
            refine z_il2 (pc' := 43) 22 rfl rfl ?_
            refine z_iconst (v := nI 1) (by decide) (pc' := 44) 23 rfl rfl ?_
            refine z_icmp_ne_f (pc' := 47) 24 rfl rfl (tgt := 60) rfl h30 ?_
            refine z_al0 (pc' := 48) 25 rfl rfl ?_
            refine z_getf (pc' := 51) 26 rfl rfl f_Mo_41_12 (by first | exact phm_102 | exact phm_103 | exact phm_104 | (rw [phm_o (by decide)]; assumption)) (by rfl) ?_
            refine z_il3 (pc' := 52) 27 rfl rfl ?_
            refine z_iald (pc' := 53) 28 rfl rfl (by first | exact phm_102 | exact phm_103 | exact phm_104 | (rw [phm_o (by decide)]; assumption)) (by omega) (by decide) ?_
            first | refine z_if_lt (pc' := 56) 29 rfl rfl (tgt := 60) rfl (fun h53 => ?_) (fun h53 => ?_)
            · refine z_iconst (v := nI 0) (by decide) (pc' := 61) 32 rfl rfl ?_
              refine z_is4 rfl rfl (pc' := 63) 33 rfl rfl ?_
              refine z_al0 (pc' := 64) 34 rfl rfl ?_
              refine z_getf (pc' := 67) 35 rfl rfl f_Mo_51_12 (by first | exact phm_102 | exact phm_103 | exact phm_104 | (rw [phm_o (by decide)]; assumption)) (by rfl) ?_
              refine z_il1 (pc' := 68) 36 rfl rfl ?_
              refine z_il2 (pc' := 69) 37 rfl rfl ?_
              refine z_iconst (v := nI 1) (by decide) (pc' := 70) 38 rfl rfl ?_
              refine z_icmp_ne_f (pc' := 73) 39 rfl rfl (tgt := 82) rfl h30 ?_
              refine z_il4 (pc' := 75) 40 rfl rfl ?_
              refine z_if_ne_f (pc' := 78) 41 rfl rfl (tgt := 82) rfl rfl ?_
              refine z_iconst (v := nI 2) (by decide) (pc' := 79) 42 rfl rfl ?_
              refine z_goto 43 rfl (tgt := 83) rfl ?_
              refine z_iast (pc' := 84) 45 rfl rfl (by first | exact phm_102 | exact phm_103 | exact phm_104 | (rw [phm_o (by decide)]; assumption)) (by omega) (by decide) ?_
              rw [phm_s102]
              refine z_al0 (pc' := 85) 46 rfl rfl ?_
              refine z_getf (pc' := 88) 47 rfl rfl f_Mo_54_12 (by first | exact phm_102 | exact phm_103 | exact phm_104 | (rw [phm_o (by decide)]; assumption)) (by rfl) ?_
              refine z_il1 (pc' := 89) 48 rfl rfl ?_
              refine z_il4 (pc' := 91) 49 rfl rfl ?_
              refine z_if_eq_t 50 rfl (tgt := 103) rfl rfl ?_
              refine z_il3 (pc' := 104) 56 rfl rfl ?_
              refine z_iast (pc' := 105) 57 rfl rfl (by first | exact phm_102 | exact phm_103 | exact phm_104 | (rw [phm_o (by decide)]; assumption)) (by omega) (by decide) ?_
              rw [phm_s103]
              refine z_al0 (pc' := 106) 58 rfl rfl ?_
              refine z_getf (pc' := 109) 59 rfl rfl f_Mo_57_12 (by first | exact phm_102 | exact phm_103 | exact phm_104 | (rw [phm_o (by decide)]; assumption)) (by rfl) ?_
              refine z_il1 (pc' := 110) 60 rfl rfl ?_
              refine z_il4 (pc' := 112) 61 rfl rfl ?_
              refine z_if_eq_t 62 rfl (tgt := 124) rfl rfl ?_
              refine z_iconst (v := nI 0) (by decide) (pc' := 125) 68 rfl rfl ?_
              refine z_iast (pc' := 126) 69 rfl rfl (by first | exact phm_102 | exact phm_103 | exact phm_104 | (rw [phm_o (by decide)]; assumption)) (by omega) (by decide) ?_
              rw [phm_s104]
              refine z_iconst (v := nI 1) (by decide) (pc' := 127) 70 rfl rfl ?_
              exact z_ireturn 71 rfl rfl (by first | rfl | exact zbo_nar) rfl rfl (by show mKh μ _ _ _; rw [f_shelf, if_pos ⟨h4, h13, fun z => absurd z h17, fun _ => h37⟩, tN_n (show x1 < 2 ^ 31 by omega), nwS, if_neg h17, if_pos h30, tN_n (show v1 < 2 ^ 31 by omega), if_pos ((hd_lt (hT v1).1).mp h53)]; exact mKh_of (updH9 rfl) (jH_2 hH))
            · refine z_iconst (v := nI 1) (by decide) (pc' := 57) 30 rfl rfl ?_
              refine z_goto 31 rfl (tgt := 61) rfl ?_
              refine z_is4 rfl rfl (pc' := 63) 33 rfl rfl ?_
              refine z_al0 (pc' := 64) 34 rfl rfl ?_
              refine z_getf (pc' := 67) 35 rfl rfl f_Mo_51_12 (by first | exact phm_102 | exact phm_103 | exact phm_104 | (rw [phm_o (by decide)]; assumption)) (by rfl) ?_
              refine z_il1 (pc' := 68) 36 rfl rfl ?_
              refine z_il2 (pc' := 69) 37 rfl rfl ?_
              refine z_iconst (v := nI 1) (by decide) (pc' := 70) 38 rfl rfl ?_
              refine z_icmp_ne_f (pc' := 73) 39 rfl rfl (tgt := 82) rfl h30 ?_
              refine z_il4 (pc' := 75) 40 rfl rfl ?_
              refine z_if_ne_t 41 rfl (tgt := 82) rfl (by decide) ?_
              refine z_il2 (pc' := 83) 44 rfl rfl ?_
              refine z_iast (pc' := 84) 45 rfl rfl (by first | exact phm_102 | exact phm_103 | exact phm_104 | (rw [phm_o (by decide)]; assumption)) (by omega) (by decide) ?_
              rw [phm_s102]
              refine z_al0 (pc' := 85) 46 rfl rfl ?_
              refine z_getf (pc' := 88) 47 rfl rfl f_Mo_54_12 (by first | exact phm_102 | exact phm_103 | exact phm_104 | (rw [phm_o (by decide)]; assumption)) (by rfl) ?_
              refine z_il1 (pc' := 89) 48 rfl rfl ?_
              refine z_il4 (pc' := 91) 49 rfl rfl ?_
              refine z_if_eq_f (pc' := 94) 50 rfl rfl (tgt := 103) rfl (by decide) ?_
              refine z_al0 (pc' := 95) 51 rfl rfl ?_
              refine z_getf (pc' := 98) 52 rfl rfl f_Mo_41_12 (by first | exact phm_102 | exact phm_103 | exact phm_104 | (rw [phm_o (by decide)]; assumption)) (by rfl) ?_
              refine z_il3 (pc' := 99) 53 rfl rfl ?_
              refine z_iald (pc' := 100) 54 rfl rfl (by first | exact phm_102 | exact phm_103 | exact phm_104 | (rw [phm_o (by decide)]; assumption)) (by omega) (by decide) ?_
              refine z_goto 55 rfl (tgt := 104) rfl ?_
              refine z_iast (pc' := 105) 57 rfl rfl (by first | exact phm_102 | exact phm_103 | exact phm_104 | (rw [phm_o (by decide)]; assumption)) (by omega) (by decide) ?_
              rw [phm_s103]
              refine z_al0 (pc' := 106) 58 rfl rfl ?_
              refine z_getf (pc' := 109) 59 rfl rfl f_Mo_57_12 (by first | exact phm_102 | exact phm_103 | exact phm_104 | (rw [phm_o (by decide)]; assumption)) (by rfl) ?_
              refine z_il1 (pc' := 110) 60 rfl rfl ?_
              refine z_il4 (pc' := 112) 61 rfl rfl ?_
              refine z_if_eq_f (pc' := 115) 62 rfl rfl (tgt := 124) rfl (by decide) ?_
              refine z_al0 (pc' := 116) 63 rfl rfl ?_
              refine z_getf (pc' := 119) 64 rfl rfl f_Mo_44_12 (by first | exact phm_102 | exact phm_103 | exact phm_104 | (rw [phm_o (by decide)]; assumption)) (by rfl) ?_
              refine z_il3 (pc' := 120) 65 rfl rfl ?_
              refine z_iald (pc' := 121) 66 rfl rfl (by first | exact phm_102 | exact phm_103 | exact phm_104 | (rw [phm_o (by decide)]; assumption)) (by omega) (by decide) ?_
              refine z_goto 67 rfl (tgt := 125) rfl ?_
              refine z_iast (pc' := 126) 69 rfl rfl (by first | exact phm_102 | exact phm_103 | exact phm_104 | (rw [phm_o (by decide)]; assumption)) (by omega) (by decide) ?_
              rw [phm_s104]
              refine z_iconst (v := nI 1) (by decide) (pc' := 127) 70 rfl rfl ?_
              exact z_ireturn 71 rfl rfl (by first | rfl | exact zbo_nar) rfl rfl (by show mKh μ _ _ _; rw [f_shelf, if_pos ⟨h4, h13, fun z => absurd z h17, fun _ => h37⟩, tN_n (show x1 < 2 ^ 31 by omega), nwS, if_neg h17, if_pos h30, tN_n (show v1 < 2 ^ 31 by omega), if_neg (fun z => h53 ((hd_lt (hT v1).1).mpr z))]; exact mKh_of (updH9 rfl) (jH_1 hH))
          · refine z_iconst (v := (-1)) (by decide) (pc' := 41) 20 rfl rfl ?_
            exact z_ireturn 21 rfl rfl (by first | rfl | exact zbo_nar) rfl rfl (by show mKh μ _ _ _; rw [f_shelf, if_neg (fun z => h37 (z.2.2.2 h30))]; exact mKh_of rfl hH)
      · refine z_al0 (pc' := 21) 10 rfl rfl ?_
        refine z_il3 (pc' := 22) 11 rfl rfl ?_
        refine z_callV1 (pc' := 25) 12 rfl rfl k_Mo_92 (by first | exact phm_102 | exact phm_103 | exact phm_104 | (rw [phm_o (by decide)]; assumption)) (c_Mo_isGirlA (by rw [phm_o (by decide)]; exact h2) (by rw [phm_o (by decide)]; exact h1) hi _) (by decide) (Nat.le_refl _) (Nat.le_refl _) rfl rfl (Nat.le_of_ble_eq_true rfl) ?_
        first | refine z_if_eqB (pc' := 28) 13 rfl rfl (tgt := 40) rfl (fun h25 => ?_) (fun h25 => ?_) | refine z_if_eqN (pc' := 28) 13 rfl rfl (tgt := 40) rfl (by omega) (fun h25 => ?_) (fun h25 => ?_) | refine z_if_eq (pc' := 28) 13 rfl rfl (tgt := 40) rfl (fun h25 => ?_) (fun h25 => ?_)
        · refine z_iconst (v := (-1)) (by decide) (pc' := 41) 20 rfl rfl ?_
          exact z_ireturn 21 rfl rfl (by first | rfl | exact zbo_nar) rfl rfl (by show mKh μ _ _ _; rw [f_shelf, if_neg (fun z => h25 (z.2.2.1 h17))]; exact mKh_of rfl hH)
        · refine z_il2 (pc' := 29) 14 rfl rfl ?_
          refine z_iconst (v := nI 1) (by decide) (pc' := 30) 15 rfl rfl ?_
          refine z_icmp_ne_t 16 rfl (tgt := 42) rfl (by rw [h17]; decide) ?_
          obtain ⟨x1, hx0, hx1, rfl⟩ := z_wi h4 (by decide) (by decide)
          have hyk : y = nI 0 := h17
          subst hyk
          refine z_il2 (pc' := 43) 22 rfl rfl ?_
          refine z_iconst (v := nI 1) (by decide) (pc' := 44) 23 rfl rfl ?_
          refine z_icmp_ne_t 24 rfl (tgt := 60) rfl (by rw [h17]; decide) ?_
          refine z_iconst (v := nI 0) (by decide) (pc' := 61) 32 rfl rfl ?_
          refine z_is4 rfl rfl (pc' := 63) 33 rfl rfl ?_
          refine z_al0 (pc' := 64) 34 rfl rfl ?_
          refine z_getf (pc' := 67) 35 rfl rfl f_Mo_51_12 (by first | exact phm_102 | exact phm_103 | exact phm_104 | (rw [phm_o (by decide)]; assumption)) (by rfl) ?_
          refine z_il1 (pc' := 68) 36 rfl rfl ?_
          refine z_il2 (pc' := 69) 37 rfl rfl ?_
          refine z_iconst (v := nI 1) (by decide) (pc' := 70) 38 rfl rfl ?_
          refine z_icmp_ne_t 39 rfl (tgt := 82) rfl (by rw [h17]; decide) ?_
          refine z_il2 (pc' := 83) 44 rfl rfl ?_
          refine z_iast (pc' := 84) 45 rfl rfl (by first | exact phm_102 | exact phm_103 | exact phm_104 | (rw [phm_o (by decide)]; assumption)) (by omega) (by decide) ?_
          rw [phm_s102]
          refine z_al0 (pc' := 85) 46 rfl rfl ?_
          refine z_getf (pc' := 88) 47 rfl rfl f_Mo_54_12 (by first | exact phm_102 | exact phm_103 | exact phm_104 | (rw [phm_o (by decide)]; assumption)) (by rfl) ?_
          refine z_il1 (pc' := 89) 48 rfl rfl ?_
          refine z_il4 (pc' := 91) 49 rfl rfl ?_
          refine z_if_eq_t 50 rfl (tgt := 103) rfl rfl ?_
          refine z_il3 (pc' := 104) 56 rfl rfl ?_
          refine z_iast (pc' := 105) 57 rfl rfl (by first | exact phm_102 | exact phm_103 | exact phm_104 | (rw [phm_o (by decide)]; assumption)) (by omega) (by decide) ?_
          rw [phm_s103]
          refine z_al0 (pc' := 106) 58 rfl rfl ?_
          refine z_getf (pc' := 109) 59 rfl rfl f_Mo_57_12 (by first | exact phm_102 | exact phm_103 | exact phm_104 | (rw [phm_o (by decide)]; assumption)) (by rfl) ?_
          refine z_il1 (pc' := 110) 60 rfl rfl ?_
          refine z_il4 (pc' := 112) 61 rfl rfl ?_
          refine z_if_eq_t 62 rfl (tgt := 124) rfl rfl ?_
          refine z_iconst (v := nI 0) (by decide) (pc' := 125) 68 rfl rfl ?_
          refine z_iast (pc' := 126) 69 rfl rfl (by first | exact phm_102 | exact phm_103 | exact phm_104 | (rw [phm_o (by decide)]; assumption)) (by omega) (by decide) ?_
          rw [phm_s104]
          refine z_iconst (v := nI 1) (by decide) (pc' := 127) 70 rfl rfl ?_
          exact z_ireturn 71 rfl rfl (by first | rfl | exact zbo_nar) rfl rfl (by show mKh μ _ _ _; rw [f_shelf, if_pos ⟨h4, h13, fun _ => h25, fun z => absurd (h17.symm.trans z) (by decide)⟩, tN_n (show x1 < 2 ^ 31 by omega), nwS, if_pos h17]; exact mKh_of (updH9 rfl) (jH_0 hH))
theorem hl1 {S : Nat → Nat → Nat} {σ : zσ} {x : Nat} (h : (σ x).1 = 1) : hld S σ x = 1 := by rw [hld, if_neg (fun z => by have := z.1; omega)]; exact h
theorem hl2 {S : Nat → Nat → Nat} {σ : zσ} {x : Nat} (h : ¬ ((σ x).1 = 0 ∧ 0 ≤ (σ x).2.1 ∧ (σ x).2.1 < nI (S 0 0))) (h1 : (σ x).1 ≠ 1) (h2 : (σ x).1 ≤ 2) : hld S σ x = 2 := by
  unfold hld
  split
  · rfl
  · rename_i e
    by_cases z : (σ x).1 = 0
    · exact absurd ⟨z, Classical.byContradiction (fun q => e ⟨z, q⟩)⟩ h
    · omega
set_option maxHeartbeats 4000000 in
set_option maxRecDepth 100000 in
theorem c_Mo_taken {G : zG} {n u : Nat} {μ : Nat → va_E} {κ : zκ} {s : Nat → Int32} (h : mst μ s κ) {σ : zσ} (hhe : isHeM μ σ) (x y : Int32) :
    zMet G 3 M_Mo_taken [.ref 88, .int x, .int y] n u μ n u (mK μ s (f_taken κ σ x y, κ)) := by
  obtain ⟨S, mo, pr, fa, sc, ch, rc, D⟩ := κ
  have hst := h
  obtain ⟨⟨ρ, h1, hD⟩, h2, ⟨q93, h93⟩, ⟨q91, h91⟩, ⟨q94, h94⟩, ⟨q95, h95⟩, ⟨q96, h96⟩, ⟨q97, h97⟩, h5⟩ := h
  have hk5 := h5
  obtain ⟨hi, hx, hmo, hrc⟩ := h5
  have hi0 := hi.1
  have hi1 := hi.2.1
  have hi2 := hi.2.2.1
  have hi3 := hi.2.2.2.2.1
  have hhe0 := hhe
  obtain ⟨he, hs, h102, h103, h104, hH⟩ := hhe
  refine z_start (lv := [.ref 88, .int x, .int y]) K_Mo_taken rfl rfl (Nat.le_refl _) (Nat.le_refl _) (Nat.le_of_ble_eq_true rfl) rfl ?_
  refine z_mu (pm_id h2 h1).symm ?_
  refine z_il1 (pc' := 1) 0 rfl rfl ?_
  refine z_callS1 (pc' := 4) 1 rfl rfl k_Mo_310 (c_Mo_isFour _) (by decide) (Nat.le_refl _) (Nat.le_refl _) rfl rfl (Nat.le_of_ble_eq_true rfl) ?_
  first | refine z_if_eqB (pc' := 7) 2 rfl rfl (tgt := 27) rfl (fun h4 => ?_) (fun h4 => ?_) | refine z_if_eqN (pc' := 7) 2 rfl rfl (tgt := 27) rfl (by omega) (fun h4 => ?_) (fun h4 => ?_) | refine z_if_eq (pc' := 7) 2 rfl rfl (tgt := 27) rfl (fun h4 => ?_) (fun h4 => ?_)
  · refine z_iconst (v := (-1)) (by decide) (pc' := 28) 13 rfl rfl ?_
    exact z_ireturn 14 rfl rfl (by first | rfl | exact zbo_nar) rfl rfl (by show mK μ s _ _ _; rw [f_taken, if_neg (fun z => h4 z.1)]; exact mK_of hst sEq_r hD hk5)
  · refine z_il2 (pc' := 8) 3 rfl rfl ?_
    refine z_iconst (v := nI 0) (by decide) (pc' := 9) 4 rfl rfl ?_
    refine z_iconst (v := nI 5) (by decide) (pc' := 10) 5 rfl rfl ?_
    refine z_callS1 (pc' := 13) 6 rfl rfl k_Mo_67 (c_Mo_in _ _ _) (by decide) (Nat.le_refl _) (Nat.le_refl _) rfl rfl (Nat.le_of_ble_eq_true rfl) ?_
    first | refine z_if_neB (pc' := 16) 7 rfl rfl (tgt := 29) rfl (fun h13 => ?_) (fun h13 => ?_) | refine z_if_neN (pc' := 16) 7 rfl rfl (tgt := 29) rfl (by omega) (fun h13 => ?_) (fun h13 => ?_) | refine z_if_ne (pc' := 16) 7 rfl rfl (tgt := 29) rfl (fun h13 => ?_) (fun h13 => ?_)
    · have h4x := h4
      obtain ⟨x1, hx0, hx1, rfl⟩ := z_wi h4 (by decide) (by decide)
      have hyy : (nI 0 ≤ y ∧ y ≤ nI 5) ∨ (nI 10 ≤ y ∧ y ≤ nI 14) := Or.inl h13
      have hH1 := (hH x1).1
      refine z_al0 (pc' := 30) 15 rfl rfl ?_
      refine z_il1 (pc' := 31) 16 rfl rfl ?_
      refine z_callV1 (pc' := 34) 17 rfl rfl k_Mo_320 (by first | exact pm_f | exact pm_1 | (rw [pm_o (by decide)]; assumption)) (c_Mo_hasGirl hi hhe0 hx1) (by decide) (Nat.le_refl _) (Nat.le_refl _) rfl rfl (Nat.le_of_ble_eq_true rfl) ?_
      first | refine z_if_eqB (pc' := 37) 18 rfl rfl (tgt := 73) rfl (fun h34 => ?_) (fun h34 => ?_) | refine z_if_eqN (pc' := 37) 18 rfl rfl (tgt := 73) rfl (by omega) (fun h34 => ?_) (fun h34 => ?_) | refine z_if_eq (pc' := 37) 18 rfl rfl (tgt := 73) rfl (fun h34 => ?_) (fun h34 => ?_)
      · refine z_al0 (pc' := 74) 39 rfl rfl ?_
        refine z_getf (pc' := 77) 40 rfl rfl f_Mo_51_12 (by first | exact pm_f | exact pm_1 | (rw [pm_o (by decide)]; assumption)) (by rfl) ?_
        refine z_il1 (pc' := 78) 41 rfl rfl ?_
        refine z_iald (pc' := 79) 42 rfl rfl (by first | exact pm_f | exact pm_1 | (rw [pm_o (by decide)]; assumption)) (by omega) (by decide) ?_
        refine z_iconst (v := nI 1) (by decide) (pc' := 80) 43 rfl rfl ?_
        first | refine z_icmp_eqN (pc' := 83) 44 rfl rfl (tgt := 86) rfl (by omega) (by omega) (fun h80 => ?_) (fun h80 => ?_) | refine z_icmp_eq (pc' := 83) 44 rfl rfl (tgt := 86) rfl (fun h80 => ?_) (fun h80 => ?_)
        · refine z_il2 (pc' := 87) 47 rfl rfl ?_
          refine z_bipush (v := nI 10) (by decide) (pc' := 89) 48 rfl rfl ?_
          refine z_al0 (pc' := 90) 49 rfl rfl ?_
          refine z_getf (pc' := 93) 50 rfl rfl f_Mo_54_12 (by first | exact pm_f | exact pm_1 | (rw [pm_o (by decide)]; assumption)) (by rfl) ?_
          refine z_il1 (pc' := 94) 51 rfl rfl ?_
          refine z_iald (pc' := 95) 52 rfl rfl (by first | exact pm_f | exact pm_1 | (rw [pm_o (by decide)]; assumption)) (by omega) (by decide) ?_
          rw [((hH x1).2.2 h80).1]
          refine z_iadd (pc' := 96) 53 rfl rfl ?_
          first | refine z_icmp_ne (pc' := 99) 54 rfl rfl (tgt := 108) rfl (fun h96 => ?_) (fun h96 => ?_)
          · refine z_bipush (v := (-13)) (by decide) (pc' := 110) 60 rfl rfl ?_
            exact z_ireturn 61 rfl rfl (by first | rfl | exact zbo_nar) rfl rfl (by show mK μ s _ _ _; rw [f_taken, if_pos ⟨h4x, hyy⟩, tN_n (show x1 < 2 ^ 31 by omega), if_neg (by rw [hl1 h80]; decide), if_neg (by rw [hl1 h80]; decide), if_neg (fun z => h96 (sub_10.mpr z))]; exact mK_of hst sEq_r hD hk5)
          · refine z_al0 (pc' := 100) 55 rfl rfl ?_
            refine z_getf (pc' := 103) 56 rfl rfl f_Mo_57_12 (by first | exact pm_f | exact pm_1 | (rw [pm_o (by decide)]; assumption)) (by rfl) ?_
            refine z_il1 (pc' := 104) 57 rfl rfl ?_
            refine z_iald (pc' := 105) 58 rfl rfl (by first | exact pm_f | exact pm_1 | (rw [pm_o (by decide)]; assumption)) (by omega) (by decide) ?_
            rw [((hH x1).2.2 h80).2]
            refine z_goto 59 rfl (tgt := 110) rfl ?_
            exact z_ireturn 61 rfl rfl (by first | rfl | exact zbo_nar) rfl rfl (by show mK μ s _ _ _; rw [f_taken, if_pos ⟨h4x, hyy⟩, tN_n (show x1 < 2 ^ 31 by omega), if_neg (by rw [hl1 h80]; decide), if_neg (by rw [hl1 h80]; decide), if_pos (sub_10.mp h96)]; exact mK_of hst sEq_r hD hk5)
        · refine z_bipush (v := (-11)) (by decide) (pc' := 85) 45 rfl rfl ?_
          exact z_ireturn 46 rfl rfl (by first | rfl | exact zbo_nar) rfl rfl (by show mK μ s _ _ _; rw [f_taken, if_pos ⟨h4x, hyy⟩, tN_n (show x1 < 2 ^ 31 by omega), if_pos (hl2 h34 h80 (hH x1).1)]; exact mK_of hst sEq_r hD hk5)
      · have hl0 : hld S σ x1 = 0 := by rw [hld, if_neg (fun z => z.2 h34.2)]; exact h34.1
        obtain ⟨g1, hg1, eg⟩ := z_in h34.2 (by omega)
        refine z_il2 (pc' := 38) 19 rfl rfl ?_
        refine z_bipush (v := nI 6) (by decide) (pc' := 40) 20 rfl rfl ?_
        refine z_icmp_ge_f (pc' := 43) 21 rfl rfl (tgt := 70) rfl (y_lt6 h13) ?_
        obtain ⟨y1, hy0, hy1, rfl⟩ := z_wi h13 (by decide) (by decide)
        refine z_al0 (pc' := 44) 22 rfl rfl ?_
        refine z_al0 (pc' := 45) 23 rfl rfl ?_
        refine z_getf (pc' := 48) 24 rfl rfl f_Mo_54_12 (by first | exact pm_f | exact pm_1 | (rw [pm_o (by decide)]; assumption)) (by rfl) ?_
        refine z_il1 (pc' := 49) 25 rfl rfl ?_
        refine z_iald (pc' := 50) 26 rfl rfl (by first | exact pm_f | exact pm_1 | (rw [pm_o (by decide)]; assumption)) (by omega) (by decide) ?_
        rw [(hH x1).2.1 h34.1, eg]
        refine z_iconst (v := nI 0) (by decide) (pc' := 51) 27 rfl rfl ?_
        refine z_callV1 (pc' := 54) 28 rfl rfl k_Mo_75 (by first | exact pm_f | exact pm_1 | (rw [pm_o (by decide)]; assumption)) (c_Mo_of0 (by omega)) (by decide) (Nat.le_refl _) (Nat.le_refl _) rfl rfl (Nat.le_of_ble_eq_true rfl) ?_
        refine z_il2 (pc' := 55) 29 rfl rfl ?_
        refine z_callS1 (pc' := 58) 30 rfl rfl k_Mo_209 (c_Mo_isUnder (hi.2.2.2.2.2 g1).1 (by omega)) (by decide) (Nat.le_refl _) (Nat.le_refl _) rfl rfl (Nat.le_of_ble_eq_true rfl) ?_
        first | refine z_if_eqB (pc' := 61) 31 rfl rfl (tgt := 70) rfl (fun h58 => ?_) (fun h58 => ?_) | refine z_if_eqN (pc' := 61) 31 rfl rfl (tgt := 70) rfl (by omega) (fun h58 => ?_) (fun h58 => ?_) | refine z_if_eq (pc' := 61) 31 rfl rfl (tgt := 70) rfl (fun h58 => ?_) (fun h58 => ?_)
        · refine z_bipush (v := (-13)) (by decide) (pc' := 72) 37 rfl rfl ?_
          exact z_ireturn 38 rfl rfl (by first | rfl | exact zbo_nar) rfl rfl (by show mK μ s _ _ _; rw [f_taken, if_pos ⟨h4x, hyy⟩, tN_n (show x1 < 2 ^ 31 by omega), if_neg (by rw [hl0]; decide), if_pos hl0, if_neg (fun z => h58 (by have := z.2; rw [eg, tN_n (show g1 < 2 ^ 31 by omega), tN_n (show y1 < 2 ^ 31 by omega)] at this; exact this))]; exact mK_of hst sEq_r hD hk5)
        · refine z_al0 (pc' := 62) 32 rfl rfl ?_
          refine z_getf (pc' := 65) 33 rfl rfl f_Mo_54_12 (by first | exact pm_f | exact pm_1 | (rw [pm_o (by decide)]; assumption)) (by rfl) ?_
          refine z_il1 (pc' := 66) 34 rfl rfl ?_
          refine z_iald (pc' := 67) 35 rfl rfl (by first | exact pm_f | exact pm_1 | (rw [pm_o (by decide)]; assumption)) (by omega) (by decide) ?_
          rw [(hH x1).2.1 h34.1]
          refine z_goto 36 rfl (tgt := 72) rfl ?_
          exact z_ireturn 38 rfl rfl (by first | rfl | exact zbo_nar) rfl rfl (by show mK μ s _ _ _; rw [f_taken, if_pos ⟨h4x, hyy⟩, tN_n (show x1 < 2 ^ 31 by omega), if_neg (by rw [hl0]; decide), if_pos hl0, if_pos ⟨h13, by rw [eg, tN_n (show g1 < 2 ^ 31 by omega), tN_n (show y1 < 2 ^ 31 by omega)]; exact h58⟩]; exact mK_of hst sEq_r hD hk5)
    · refine z_il2 (pc' := 17) 8 rfl rfl ?_
      refine z_bipush (v := nI 10) (by decide) (pc' := 19) 9 rfl rfl ?_
      refine z_bipush (v := nI 14) (by decide) (pc' := 21) 10 rfl rfl ?_
      refine z_callS1 (pc' := 24) 11 rfl rfl k_Mo_67 (c_Mo_in _ _ _) (by decide) (Nat.le_refl _) (Nat.le_refl _) rfl rfl (Nat.le_of_ble_eq_true rfl) ?_
      first | refine z_if_neB (pc' := 27) 12 rfl rfl (tgt := 29) rfl (fun h24 => ?_) (fun h24 => ?_) | refine z_if_neN (pc' := 27) 12 rfl rfl (tgt := 29) rfl (by omega) (fun h24 => ?_) (fun h24 => ?_) | refine z_if_ne (pc' := 27) 12 rfl rfl (tgt := 29) rfl (fun h24 => ?_) (fun h24 => ?_)
      · have h4x := h4
        obtain ⟨x1, hx0, hx1, rfl⟩ := z_wi h4 (by decide) (by decide)
        have hyy : (nI 0 ≤ y ∧ y ≤ nI 5) ∨ (nI 10 ≤ y ∧ y ≤ nI 14) := Or.inr h24
        have hH1 := (hH x1).1
        refine z_al0 (pc' := 30) 15 rfl rfl ?_
        refine z_il1 (pc' := 31) 16 rfl rfl ?_
        refine z_callV1 (pc' := 34) 17 rfl rfl k_Mo_320 (by first | exact pm_f | exact pm_1 | (rw [pm_o (by decide)]; assumption)) (c_Mo_hasGirl hi hhe0 hx1) (by decide) (Nat.le_refl _) (Nat.le_refl _) rfl rfl (Nat.le_of_ble_eq_true rfl) ?_
        first | refine z_if_eqB (pc' := 37) 18 rfl rfl (tgt := 73) rfl (fun h34 => ?_) (fun h34 => ?_) | refine z_if_eqN (pc' := 37) 18 rfl rfl (tgt := 73) rfl (by omega) (fun h34 => ?_) (fun h34 => ?_) | refine z_if_eq (pc' := 37) 18 rfl rfl (tgt := 73) rfl (fun h34 => ?_) (fun h34 => ?_)
        · refine z_al0 (pc' := 74) 39 rfl rfl ?_
          refine z_getf (pc' := 77) 40 rfl rfl f_Mo_51_12 (by first | exact pm_f | exact pm_1 | (rw [pm_o (by decide)]; assumption)) (by rfl) ?_
          refine z_il1 (pc' := 78) 41 rfl rfl ?_
          refine z_iald (pc' := 79) 42 rfl rfl (by first | exact pm_f | exact pm_1 | (rw [pm_o (by decide)]; assumption)) (by omega) (by decide) ?_
          refine z_iconst (v := nI 1) (by decide) (pc' := 80) 43 rfl rfl ?_
          first | refine z_icmp_eqN (pc' := 83) 44 rfl rfl (tgt := 86) rfl (by omega) (by omega) (fun h80 => ?_) (fun h80 => ?_) | refine z_icmp_eq (pc' := 83) 44 rfl rfl (tgt := 86) rfl (fun h80 => ?_) (fun h80 => ?_)
          · refine z_il2 (pc' := 87) 47 rfl rfl ?_
            refine z_bipush (v := nI 10) (by decide) (pc' := 89) 48 rfl rfl ?_
            refine z_al0 (pc' := 90) 49 rfl rfl ?_
            refine z_getf (pc' := 93) 50 rfl rfl f_Mo_54_12 (by first | exact pm_f | exact pm_1 | (rw [pm_o (by decide)]; assumption)) (by rfl) ?_
            refine z_il1 (pc' := 94) 51 rfl rfl ?_
            refine z_iald (pc' := 95) 52 rfl rfl (by first | exact pm_f | exact pm_1 | (rw [pm_o (by decide)]; assumption)) (by omega) (by decide) ?_
            rw [((hH x1).2.2 h80).1]
            refine z_iadd (pc' := 96) 53 rfl rfl ?_
            first | refine z_icmp_ne (pc' := 99) 54 rfl rfl (tgt := 108) rfl (fun h96 => ?_) (fun h96 => ?_)
            · refine z_bipush (v := (-13)) (by decide) (pc' := 110) 60 rfl rfl ?_
              exact z_ireturn 61 rfl rfl (by first | rfl | exact zbo_nar) rfl rfl (by show mK μ s _ _ _; rw [f_taken, if_pos ⟨h4x, hyy⟩, tN_n (show x1 < 2 ^ 31 by omega), if_neg (by rw [hl1 h80]; decide), if_neg (by rw [hl1 h80]; decide), if_neg (fun z => h96 (sub_10.mpr z))]; exact mK_of hst sEq_r hD hk5)
            · refine z_al0 (pc' := 100) 55 rfl rfl ?_
              refine z_getf (pc' := 103) 56 rfl rfl f_Mo_57_12 (by first | exact pm_f | exact pm_1 | (rw [pm_o (by decide)]; assumption)) (by rfl) ?_
              refine z_il1 (pc' := 104) 57 rfl rfl ?_
              refine z_iald (pc' := 105) 58 rfl rfl (by first | exact pm_f | exact pm_1 | (rw [pm_o (by decide)]; assumption)) (by omega) (by decide) ?_
              rw [((hH x1).2.2 h80).2]
              refine z_goto 59 rfl (tgt := 110) rfl ?_
              exact z_ireturn 61 rfl rfl (by first | rfl | exact zbo_nar) rfl rfl (by show mK μ s _ _ _; rw [f_taken, if_pos ⟨h4x, hyy⟩, tN_n (show x1 < 2 ^ 31 by omega), if_neg (by rw [hl1 h80]; decide), if_neg (by rw [hl1 h80]; decide), if_pos (sub_10.mp h96)]; exact mK_of hst sEq_r hD hk5)
          · refine z_bipush (v := (-11)) (by decide) (pc' := 85) 45 rfl rfl ?_
            exact z_ireturn 46 rfl rfl (by first | rfl | exact zbo_nar) rfl rfl (by show mK μ s _ _ _; rw [f_taken, if_pos ⟨h4x, hyy⟩, tN_n (show x1 < 2 ^ 31 by omega), if_pos (hl2 h34 h80 (hH x1).1)]; exact mK_of hst sEq_r hD hk5)
        · have hl0 : hld S σ x1 = 0 := by rw [hld, if_neg (fun z => z.2 h34.2)]; exact h34.1
          obtain ⟨g1, hg1, eg⟩ := z_in h34.2 (by omega)
          refine z_il2 (pc' := 38) 19 rfl rfl ?_
          refine z_bipush (v := nI 6) (by decide) (pc' := 40) 20 rfl rfl ?_
          refine z_icmp_ge_t 21 rfl (tgt := 70) rfl (y_ge6 h24) ?_
          refine z_bipush (v := (-13)) (by decide) (pc' := 72) 37 rfl rfl ?_
          exact z_ireturn 38 rfl rfl (by first | rfl | exact zbo_nar) rfl rfl (by show mK μ s _ _ _; rw [f_taken, if_pos ⟨h4x, hyy⟩, tN_n (show x1 < 2 ^ 31 by omega), if_neg (by rw [hl0]; decide), if_pos hl0, if_neg (fun z => y_n5 h24 z.1)]; exact mK_of hst sEq_r hD hk5)
      · refine z_iconst (v := (-1)) (by decide) (pc' := 28) 13 rfl rfl ?_
        exact z_ireturn 14 rfl rfl (by first | rfl | exact zbo_nar) rfl rfl (by show mK μ s _ _ _; rw [f_taken, if_neg (fun z => z.2.elim h13 h24)]; exact mK_of hst sEq_r hD hk5)
