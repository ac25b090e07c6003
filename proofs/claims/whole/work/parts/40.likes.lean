def hmo (mo : Nat) : Nat := if mo < 15 then mo else 15
/-- a girl likes a wind better than another (6: none) -/
def lkB (S : Nat → Nat → Nat) (t g w o : Nat) : Bool := decide (o = 6) || (decide (gS S g o t < gS S g w t) || (decide (gS S g w t = gS S g o t) && decide (w < o)))
def wlB (S : Nat → Nat → Nat) (w g o : Nat) : Bool := decide (tn (S 4 w) (S 2 g) < tn (S 4 w) (S 2 o)) || (decide (tn (S 4 w) (S 2 g) = tn (S 4 w) (S 2 o)) && decide (g < o))
theorem lkB_i {S : Nat → Nat → Nat} {t g w o : Nat} : lkB S t g w o = true ↔ (o = 6 ∨ gS S g o t < gS S g w t ∨ (gS S g w t = gS S g o t ∧ w < o)) := by
  simp [lkB]
theorem wlB_i {S : Nat → Nat → Nat} {w g o : Nat} : wlB S w g o = true ↔ (tn (S 4 w) (S 2 g) < tn (S 4 w) (S 2 o) ∨ (tn (S 4 w) (S 2 g) = tn (S 4 w) (S 2 o) ∧ g < o)) := by
  simp [wlB]
theorem hmo_le {mo : Nat} : hmo mo ≤ 15 := by unfold hmo; split <;> omega
theorem gS_lt {S : Nat → Nat → Nat} (hi : iS S) {g w t : Nat} : gS S g w t ≤ 18 := gn_le (hi.2.2.2.2.2 w).2.2.2.2.1
theorem tn_lt {S : Nat → Nat → Nat} (hi : iS S) {g w : Nat} : tn (S 4 w) (S 2 g) ≤ 4 := tn_le (hi.2.2.2.2.2 w).2.2.2.1 (hi.2.2.2.2.2 g).2.1
/-- nobody of those promised to it is liked better by the wind: j girls from k on -/
def alN (S : Nat → Nat → Nat) (pr : Nat → Nat) (g w : Nat) : Nat → Nat → Bool
  | 0, _ => true
  | j + 1, k => (decide (pr k ≠ w) || wlB S w g k) && alN S pr g w j (k + 1)
def plB (S : Nat → Nat → Nat) (mo : Nat) (pr : Nat → Nat) (g w : Nat) : Bool := (decide (pr g ≠ w) && lkB S (hmo mo) g w (pr g)) && alN S pr g w (S 0 0) 0
def lvA (S : Nat → Nat → Nat) (mo : Nat) (pr : Nat → Nat) (g : Nat) : Nat → Nat → Nat → Nat
  | 0, _, a => a
  | j + 1, w, a => lvA S mo pr g j (w + 1) (a + if plB S mo pr g w = true then 1 else 0)
def lvG (S : Nat → Nat → Nat) (mo : Nat) (pr : Nat → Nat) : Nat → Nat → Nat → Nat
  | 0, _, a => a
  | j + 1, g, a => lvG S mo pr j (g + 1) (lvA S mo pr g (S 0 1) 0 a)
def fsW (S : Nat → Nat → Nat) (mo : Nat) (pr : Nat → Nat) (g : Nat) (K : Int32) : Nat → Nat → Int32
  | 0, _ => K
  | j + 1, w => if plB S mo pr g w = true then nI (10 * g + w) else fsW S mo pr g K j (w + 1)
def fsG (S : Nat → Nat → Nat) (mo : Nat) (pr : Nat → Nat) : Nat → Nat → Int32
  | 0, _ => -3
  | j + 1, g => fsW S mo pr g (fsG S mo pr j (g + 1)) (S 0 1) 0
def f_leave : zκ → Int32 × zκ
  | (S, mo, pr, fa, sc, ch, rc, D) => (nI (lvG S mo pr (S 0 0) 0 0), (S, mo, pr, fa, sc, ch, rc, D))
def f_first : zκ → Int32 × zκ
  | (S, mo, pr, fa, sc, ch, rc, D) => (fsG S mo pr (S 0 0) 0, (S, mo, pr, fa, sc, ch, rc, D))
set_option maxHeartbeats 4000000 in
set_option maxRecDepth 100000 in
theorem c_Co_heldMonth {G : zG} {n u : Nat} {ν : Nat → va_E} {S : Nat → Nat → Nat} {sc ch : Int32} {mo cs : Nat} {pr fa q : Nat → Nat} (hm : mo ≤ 16) :
    zMet G 0 M_Co_heldMonth [.ref 5] n u (pcc ν S sc ch mo cs pr fa q) n u (zE (some (.int (nI (hmo mo)))) (pcc ν S sc ch mo cs pr fa q)) := by
  refine z_start (lv := [.ref 5]) K_Co_heldMonth rfl rfl (Nat.le_refl _) (Nat.le_refl _) (Nat.le_of_ble_eq_true rfl) rfl ?_
  refine z_al0 (pc' := 1) 0 rfl rfl ?_
  refine z_getf (pc' := 4) 1 rfl rfl f_Co_43_3 (by first | exact pcc_5 | exact pcc_6 | exact pcc_7 | exact pcc_8 | exact pcc_9 | exact pcc_10 | exact pcc_11 | exact pcc_12 | exact pcc_13 | exact pcc_14 | exact pcc_15 | exact pcc_22) (by rfl) ?_
  refine z_getf (pc' := 7) 2 rfl rfl f_Co_85_4 (by first | exact pcc_5 | exact pcc_6 | exact pcc_7 | exact pcc_8 | exact pcc_9 | exact pcc_10 | exact pcc_11 | exact pcc_12 | exact pcc_13 | exact pcc_14 | exact pcc_15 | exact pcc_22) (by rfl) ?_
  refine z_bipush (v := nI 15) (by decide) (pc' := 9) 3 rfl rfl ?_
  first | refine z_icmp_geN (pc' := 12) 4 rfl rfl (tgt := 22) rfl (by omega) (by omega) (fun h9 => ?_) (fun h9 => ?_) | refine z_icmp_ge (pc' := 12) 4 rfl rfl (tgt := 22) rfl (fun h9 => ?_) (fun h9 => ?_)
  · refine z_bipush (v := nI 15) (by decide) (pc' := 24) 9 rfl rfl ?_
    exact z_ireturn 10 rfl rfl (by first | rfl | exact zbo_nar) rfl rfl (by exact ⟨by unfold hmo; rw [if_neg (by omega)], rfl⟩)
  · refine z_al0 (pc' := 13) 5 rfl rfl ?_
    refine z_getf (pc' := 16) 6 rfl rfl f_Co_43_3 (by first | exact pcc_5 | exact pcc_6 | exact pcc_7 | exact pcc_8 | exact pcc_9 | exact pcc_10 | exact pcc_11 | exact pcc_12 | exact pcc_13 | exact pcc_14 | exact pcc_15 | exact pcc_22) (by rfl) ?_
    refine z_getf (pc' := 19) 7 rfl rfl f_Co_85_4 (by first | exact pcc_5 | exact pcc_6 | exact pcc_7 | exact pcc_8 | exact pcc_9 | exact pcc_10 | exact pcc_11 | exact pcc_12 | exact pcc_13 | exact pcc_14 | exact pcc_15 | exact pcc_22) (by rfl) ?_
    refine z_goto 8 rfl (tgt := 24) rfl ?_
    exact z_ireturn 10 rfl rfl (by first | rfl | exact zbo_nar) rfl rfl (by exact ⟨by unfold hmo; rw [if_pos (by omega)], rfl⟩)
set_option maxHeartbeats 4000000 in
set_option maxRecDepth 100000 in
theorem c_Mo_monthNow {G : zG} {n u : Nat} {ν : Nat → va_E} {s : Nat → Int32} {S : Nat → Nat → Nat} {mo : Nat} {pr fa : Nat → Nat} {sc ch : Int32} {rc : Nat} {ρ : Nat → Int32} (hm : mo ≤ 16) :
    zMet G 0 M_Mo_monthNow [.ref 88] n u ((pm ν s (mk S mo pr fa sc ch rc ρ))) n u (zE (some (.int (nI (hmo mo)))) (pm ν s (mk S mo pr fa sc ch rc ρ))) := by
  refine z_start (lv := [.ref 88]) K_Mo_monthNow rfl rfl (Nat.le_refl _) (Nat.le_refl _) (Nat.le_of_ble_eq_true rfl) rfl ?_
  refine z_al0 (pc' := 1) 0 rfl rfl ?_
  refine z_getf (pc' := 4) 1 rfl rfl f_Mo_9_12 (by first | exact pm_f | exact pm_1) (by rfl) ?_
  refine z_iconst (v := nI 1) (by decide) (pc' := 5) 2 rfl rfl ?_
  refine z_iald (pc' := 6) 3 rfl rfl (by first | exact pm_f | exact pm_1) (by omega) (by decide) ?_
  rw [mk_1]
  refine z_bipush (v := nI 15) (by decide) (pc' := 8) 4 rfl rfl ?_
  first | refine z_icmp_leN (pc' := 11) 5 rfl rfl (tgt := 16) rfl (by omega) (by omega) (fun h8 => ?_) (fun h8 => ?_) | refine z_icmp_le (pc' := 11) 5 rfl rfl (tgt := 16) rfl (fun h8 => ?_) (fun h8 => ?_)
  · refine z_al0 (pc' := 17) 8 rfl rfl ?_
    refine z_getf (pc' := 20) 9 rfl rfl f_Mo_9_12 (by first | exact pm_f | exact pm_1) (by rfl) ?_
    refine z_iconst (v := nI 1) (by decide) (pc' := 21) 10 rfl rfl ?_
    refine z_iald (pc' := 22) 11 rfl rfl (by first | exact pm_f | exact pm_1) (by omega) (by decide) ?_
    rw [mk_1]
    exact z_ireturn 12 rfl rfl (by first | rfl | exact zbo_nar) rfl rfl (by exact ⟨by rw [show hmo mo = mo by unfold hmo; split <;> omega], rfl⟩)
  · refine z_bipush (v := nI 15) (by decide) (pc' := 13) 6 rfl rfl ?_
    refine z_goto 7 rfl (tgt := 22) rfl ?_
    exact z_ireturn 12 rfl rfl (by first | rfl | exact zbo_nar) rfl rfl (by exact ⟨by unfold hmo; rw [if_neg (by omega)], rfl⟩)
set_option maxHeartbeats 4000000 in
set_option maxRecDepth 100000 in
theorem c_Co_girlLikes {G : zG} {n u : Nat} {ν : Nat → va_E} {S : Nat → Nat → Nat} {sc ch : Int32} {mo cs : Nat} {pr fa q : Nat → Nat} (hi : iS S) (hm : mo ≤ 16) {g w o : Nat} (hg : g < 6) (hw : w < 6) (ho : o ≤ 6) :
    zMet G 2 M_Co_girlLikes [.ref 5, .int (nI g), .int (nI w), .int (nI o)] n u (pcc ν S sc ch mo cs pr fa q) n u (zE (some (.int (zbo (lkB S (hmo mo) g w o = true)))) (pcc ν S sc ch mo cs pr fa q)) := by
  refine z_start (lv := [.ref 5, .int (nI g), .int (nI w), .int (nI o), .retAddr 0, .retAddr 0, .retAddr 0]) K_Co_girlLikes rfl rfl (Nat.le_refl _) (Nat.le_refl _) (Nat.le_of_ble_eq_true rfl) rfl ?_
  refine z_il3 (pc' := 1) 0 rfl rfl ?_
  refine z_bipush (v := nI 6) (by decide) (pc' := 3) 1 rfl rfl ?_
  first | refine z_icmp_neN (pc' := 6) 2 rfl rfl (tgt := 8) rfl (by omega) (by omega) (fun h3 => ?_) (fun h3 => ?_) | refine z_icmp_ne (pc' := 6) 2 rfl rfl (tgt := 8) rfl (fun h3 => ?_) (fun h3 => ?_)
  · have hg1 := gS_lt hi (g := g) (w := w) (t := hmo mo)
    have hg2 := gS_lt hi (g := g) (w := o) (t := hmo mo)
    have hh := hmo_le (mo := mo)
    refine z_al0 (pc' := 9) 5 rfl rfl ?_
    refine z_callV1 (pc' := 12) 6 rfl rfl k_Co_101 (by first | exact pcc_5 | exact pcc_6 | exact pcc_7 | exact pcc_8 | exact pcc_9 | exact pcc_10 | exact pcc_11 | exact pcc_12 | exact pcc_13 | exact pcc_14 | exact pcc_15 | exact pcc_22) (c_Co_heldMonth hm) (by decide) (Nat.le_refl _) (Nat.le_refl _) rfl rfl (Nat.le_of_ble_eq_true rfl) ?_
    refine z_is4 rfl rfl (pc' := 14) 7 rfl rfl ?_
    refine z_al0 (pc' := 15) 8 rfl rfl ?_
    refine z_il1 (pc' := 16) 9 rfl rfl ?_
    refine z_il2 (pc' := 17) 10 rfl rfl ?_
    refine z_il4 (pc' := 19) 11 rfl rfl ?_
    refine z_callV1 (pc' := 22) 12 rfl rfl k_Co_105 (by first | exact pcc_5 | exact pcc_6 | exact pcc_7 | exact pcc_8 | exact pcc_9 | exact pcc_10 | exact pcc_11 | exact pcc_12 | exact pcc_13 | exact pcc_14 | exact pcc_15 | exact pcc_22) (c_Co_gainBy isCo_pcc hi hg (by omega) (by omega)) (by decide) (Nat.le_refl _) (Nat.le_refl _) rfl rfl (Nat.le_of_ble_eq_true rfl) ?_
    refine z_is5 rfl rfl (pc' := 24) 13 rfl rfl ?_
    refine z_al0 (pc' := 25) 14 rfl rfl ?_
    refine z_il1 (pc' := 26) 15 rfl rfl ?_
    refine z_il3 (pc' := 27) 16 rfl rfl ?_
    refine z_il4 (pc' := 29) 17 rfl rfl ?_
    refine z_callV1 (pc' := 32) 18 rfl rfl k_Co_105 (by first | exact pcc_5 | exact pcc_6 | exact pcc_7 | exact pcc_8 | exact pcc_9 | exact pcc_10 | exact pcc_11 | exact pcc_12 | exact pcc_13 | exact pcc_14 | exact pcc_15 | exact pcc_22) (c_Co_gainBy isCo_pcc hi hg (by omega) (by omega)) (by decide) (Nat.le_refl _) (Nat.le_refl _) rfl rfl (Nat.le_of_ble_eq_true rfl) ?_
    refine z_is6 rfl rfl (pc' := 34) 19 rfl rfl ?_
    refine z_il5 (pc' := 36) 20 rfl rfl ?_
    refine z_il6 (pc' := 38) 21 rfl rfl ?_
    first | refine z_icmp_gtN (pc' := 41) 22 rfl rfl (tgt := 53) rfl (by omega) (by omega) (fun h38 => ?_) (fun h38 => ?_) | refine z_icmp_gt (pc' := 41) 22 rfl rfl (tgt := 53) rfl (fun h38 => ?_) (fun h38 => ?_)
    · refine z_iconst (v := nI 1) (by decide) (pc' := 54) 29 rfl rfl ?_
      refine z_goto 30 rfl (tgt := 58) rfl ?_
      exact z_ireturn 32 rfl rfl (by first | rfl | exact zbo_nar) rfl rfl (by exact ⟨by rw [zbo_t (lkB_i.mpr (by omega))], rfl⟩)
    · refine z_il5 (pc' := 43) 23 rfl rfl ?_
      refine z_il6 (pc' := 45) 24 rfl rfl ?_
      first | refine z_icmp_neN (pc' := 48) 25 rfl rfl (tgt := 57) rfl (by omega) (by omega) (fun h45 => ?_) (fun h45 => ?_) | refine z_icmp_ne (pc' := 48) 25 rfl rfl (tgt := 57) rfl (fun h45 => ?_) (fun h45 => ?_)
      · refine z_iconst (v := nI 0) (by decide) (pc' := 58) 31 rfl rfl ?_
        exact z_ireturn 32 rfl rfl (by first | rfl | exact zbo_nar) rfl rfl (by exact ⟨by rw [zbo_f (fun z => by have := lkB_i.mp z; omega)], rfl⟩)
      · refine z_il2 (pc' := 49) 26 rfl rfl ?_
        refine z_il3 (pc' := 50) 27 rfl rfl ?_
        first | refine z_icmp_geN (pc' := 53) 28 rfl rfl (tgt := 57) rfl (by omega) (by omega) (fun h50 => ?_) (fun h50 => ?_) | refine z_icmp_ge (pc' := 53) 28 rfl rfl (tgt := 57) rfl (fun h50 => ?_) (fun h50 => ?_)
        · refine z_iconst (v := nI 0) (by decide) (pc' := 58) 31 rfl rfl ?_
          exact z_ireturn 32 rfl rfl (by first | rfl | exact zbo_nar) rfl rfl (by exact ⟨by rw [zbo_f (fun z => by have := lkB_i.mp z; omega)], rfl⟩)
        · refine z_iconst (v := nI 1) (by decide) (pc' := 54) 29 rfl rfl ?_
          refine z_goto 30 rfl (tgt := 58) rfl ?_
          exact z_ireturn 32 rfl rfl (by first | rfl | exact zbo_nar) rfl rfl (by exact ⟨by rw [zbo_t (lkB_i.mpr (by omega))], rfl⟩)
  · refine z_iconst (v := nI 1) (by decide) (pc' := 7) 3 rfl rfl ?_
    exact z_ireturn 4 rfl rfl (by first | rfl | exact zbo_nar) rfl rfl (by exact ⟨by rw [zbo_t (lkB_i.mpr (Or.inl h3))], rfl⟩)
set_option maxHeartbeats 4000000 in
set_option maxRecDepth 100000 in
theorem c_Mo_likes {G : zG} {n u : Nat} {ν : Nat → va_E} {s : Nat → Int32} {S : Nat → Nat → Nat} {mo : Nat} {pr fa : Nat → Nat} {sc ch : Int32} {rc : Nat} {ρ : Nat → Int32} (hi : iS S) (hm : mo ≤ 16) {g w o : Nat} (hg : g < 6) (hw : w < 6) (ho : o ≤ 6) :
    zMet G 3 M_Mo_likes [.ref 88, .int (nI g), .int (nI w), .int (hasI o)] n u ((pm ν s (mk S mo pr fa sc ch rc ρ))) n u (zE (some (.int (zbo (lkB S (hmo mo) g w o = true)))) (pm ν s (mk S mo pr fa sc ch rc ρ))) := by
  refine z_start (lv := [.ref 88, .int (nI g), .int (nI w), .int (hasI o), .retAddr 0, .retAddr 0]) K_Mo_likes rfl rfl (Nat.le_refl _) (Nat.le_refl _) (Nat.le_of_ble_eq_true rfl) rfl ?_
  refine z_il3 (pc' := 1) 0 rfl rfl ?_
  first | refine z_if_geH (pc' := 4) 1 rfl rfl (tgt := 6) rfl ho (fun h1 => ?_) (fun h1 => ?_) | refine z_if_geN (pc' := 4) 1 rfl rfl (tgt := 6) rfl (by omega) (fun h1 => ?_) (fun h1 => ?_) | refine z_if_ge (pc' := 4) 1 rfl rfl (tgt := 6) rfl (fun h1 => ?_) (fun h1 => ?_)
  · have hg1 := gS_lt hi (g := g) (w := w) (t := hmo mo)
    have hg2 := gS_lt hi (g := g) (w := o) (t := hmo mo)
    have hh := hmo_le (mo := mo)
    rw [hasI_n h1]
    refine z_al0 (pc' := 7) 4 rfl rfl ?_
    refine z_il1 (pc' := 8) 5 rfl rfl ?_
    refine z_il2 (pc' := 9) 6 rfl rfl ?_
    refine z_al0 (pc' := 10) 7 rfl rfl ?_
    refine z_callV1 (pc' := 13) 8 rfl rfl k_Mo_233 (by first | exact pm_f | exact pm_1) (c_Mo_monthNow hm) (by decide) (Nat.le_refl _) (Nat.le_refl _) rfl rfl (Nat.le_of_ble_eq_true rfl) ?_
    refine z_callV1 (pc' := 16) 9 rfl rfl k_Mo_120 (by first | exact pm_f | exact pm_1) (c_Mo_gainOf hi hg (by omega) (by omega)) (by decide) (Nat.le_refl _) (Nat.le_refl _) rfl rfl (Nat.le_of_ble_eq_true rfl) ?_
    refine z_is4 rfl rfl (pc' := 18) 10 rfl rfl ?_
    refine z_al0 (pc' := 19) 11 rfl rfl ?_
    refine z_il1 (pc' := 20) 12 rfl rfl ?_
    refine z_il3 (pc' := 21) 13 rfl rfl ?_
    refine z_al0 (pc' := 22) 14 rfl rfl ?_
    refine z_callV1 (pc' := 25) 15 rfl rfl k_Mo_233 (by first | exact pm_f | exact pm_1) (c_Mo_monthNow hm) (by decide) (Nat.le_refl _) (Nat.le_refl _) rfl rfl (Nat.le_of_ble_eq_true rfl) ?_
    refine z_callV1 (pc' := 28) 16 rfl rfl k_Mo_120 (by first | exact pm_f | exact pm_1) (c_Mo_gainOf hi hg (by omega) (by omega)) (by decide) (Nat.le_refl _) (Nat.le_refl _) rfl rfl (Nat.le_of_ble_eq_true rfl) ?_
    refine z_is5 rfl rfl (pc' := 30) 17 rfl rfl ?_
    refine z_il4 (pc' := 32) 18 rfl rfl ?_
    refine z_il5 (pc' := 34) 19 rfl rfl ?_
    first | refine z_icmp_gtN (pc' := 37) 20 rfl rfl (tgt := 49) rfl (by omega) (by omega) (fun h34 => ?_) (fun h34 => ?_) | refine z_icmp_gt (pc' := 37) 20 rfl rfl (tgt := 49) rfl (fun h34 => ?_) (fun h34 => ?_)
    · refine z_iconst (v := nI 1) (by decide) (pc' := 50) 27 rfl rfl ?_
      refine z_goto 28 rfl (tgt := 54) rfl ?_
      exact z_ireturn 30 rfl rfl (by first | rfl | exact zbo_nar) rfl rfl (by exact ⟨by rw [zbo_t (lkB_i.mpr (by omega))], rfl⟩)
    · refine z_il4 (pc' := 39) 21 rfl rfl ?_
      refine z_il5 (pc' := 41) 22 rfl rfl ?_
      first | refine z_icmp_neN (pc' := 44) 23 rfl rfl (tgt := 53) rfl (by omega) (by omega) (fun h41 => ?_) (fun h41 => ?_) | refine z_icmp_ne (pc' := 44) 23 rfl rfl (tgt := 53) rfl (fun h41 => ?_) (fun h41 => ?_)
      · refine z_iconst (v := nI 0) (by decide) (pc' := 54) 29 rfl rfl ?_
        exact z_ireturn 30 rfl rfl (by first | rfl | exact zbo_nar) rfl rfl (by exact ⟨by rw [zbo_f (fun z => by have := lkB_i.mp z; omega)], rfl⟩)
      · refine z_il2 (pc' := 45) 24 rfl rfl ?_
        refine z_il3 (pc' := 46) 25 rfl rfl ?_
        first | refine z_icmp_geN (pc' := 49) 26 rfl rfl (tgt := 53) rfl (by omega) (by omega) (fun h46 => ?_) (fun h46 => ?_) | refine z_icmp_ge (pc' := 49) 26 rfl rfl (tgt := 53) rfl (fun h46 => ?_) (fun h46 => ?_)
        · refine z_iconst (v := nI 0) (by decide) (pc' := 54) 29 rfl rfl ?_
          exact z_ireturn 30 rfl rfl (by first | rfl | exact zbo_nar) rfl rfl (by exact ⟨by rw [zbo_f (fun z => by have := lkB_i.mp z; omega)], rfl⟩)
        · refine z_iconst (v := nI 1) (by decide) (pc' := 50) 27 rfl rfl ?_
          refine z_goto 28 rfl (tgt := 54) rfl ?_
          exact z_ireturn 30 rfl rfl (by first | rfl | exact zbo_nar) rfl rfl (by exact ⟨by rw [zbo_t (lkB_i.mpr (by omega))], rfl⟩)
  · refine z_iconst (v := nI 1) (by decide) (pc' := 5) 2 rfl rfl ?_
    exact z_ireturn 3 rfl rfl (by first | rfl | exact zbo_nar) rfl rfl (by exact ⟨by rw [zbo_t (lkB_i.mpr (Or.inl h1))], rfl⟩)
set_option maxHeartbeats 4000000 in
set_option maxRecDepth 100000 in
theorem c_Co_windLikes {G : zG} {n u : Nat} {ν : Nat → va_E} {S : Nat → Nat → Nat} {sc ch : Int32} {mo cs : Nat} {pr fa q : Nat → Nat} (hi : iS S) {g w o : Nat} (hg : g < 6) (hw : w < 6) (ho : o < 6) :
    zMet G 1 M_Co_windLikes [.ref 5, .int (nI w), .int (nI g), .int (nI o)] n u (pcc ν S sc ch mo cs pr fa q) n u (zE (some (.int (zbo (wlB S w g o = true)))) (pcc ν S sc ch mo cs pr fa q)) := by
  refine z_start (lv := [.ref 5, .int (nI w), .int (nI g), .int (nI o), .retAddr 0, .retAddr 0]) K_Co_windLikes rfl rfl (Nat.le_refl _) (Nat.le_refl _) (Nat.le_of_ble_eq_true rfl) rfl ?_
  have hg1 := tn_lt hi (g := g) (w := w)
  have hg2 := tn_lt hi (g := o) (w := w)
  have hs4 := (hi.2.2.2.2.2 w).2.2.2.1
  have hs2 := (hi.2.2.2.2.2 g).2.1
  have hs3 := (hi.2.2.2.2.2 o).2.1
  refine z_al0 (pc' := 1) 0 rfl rfl ?_
  refine z_getf (pc' := 4) 1 rfl rfl f_Co_21_3 (by first | exact pcc_5 | exact pcc_6 | exact pcc_7 | exact pcc_8 | exact pcc_9 | exact pcc_10 | exact pcc_11 | exact pcc_12 | exact pcc_13 | exact pcc_14 | exact pcc_15 | exact pcc_22) (by rfl) ?_
  refine z_il1 (pc' := 5) 2 rfl rfl ?_
  refine z_iald (pc' := 6) 3 rfl rfl (by first | exact pcc_5 | exact pcc_6 | exact pcc_7 | exact pcc_8 | exact pcc_9 | exact pcc_10 | exact pcc_11 | exact pcc_12 | exact pcc_13 | exact pcc_14 | exact pcc_15 | exact pcc_22) (by omega) (by decide) ?_
  refine z_al0 (pc' := 7) 4 rfl rfl ?_
  refine z_getf (pc' := 10) 5 rfl rfl f_Co_15_3 (by first | exact pcc_5 | exact pcc_6 | exact pcc_7 | exact pcc_8 | exact pcc_9 | exact pcc_10 | exact pcc_11 | exact pcc_12 | exact pcc_13 | exact pcc_14 | exact pcc_15 | exact pcc_22) (by rfl) ?_
  refine z_il2 (pc' := 11) 6 rfl rfl ?_
  refine z_iald (pc' := 12) 7 rfl rfl (by first | exact pcc_5 | exact pcc_6 | exact pcc_7 | exact pcc_8 | exact pcc_9 | exact pcc_10 | exact pcc_11 | exact pcc_12 | exact pcc_13 | exact pcc_14 | exact pcc_15 | exact pcc_22) (by omega) (by decide) ?_
  refine z_callS1 (pc' := 15) 8 rfl rfl k_Co_92 (c_Wb_turnBetween (by omega) (by omega)) (by decide) (Nat.le_refl _) (Nat.le_refl _) rfl rfl (Nat.le_of_ble_eq_true rfl) ?_
  refine z_is4 rfl rfl (pc' := 17) 9 rfl rfl ?_
  refine z_al0 (pc' := 18) 10 rfl rfl ?_
  refine z_getf (pc' := 21) 11 rfl rfl f_Co_21_3 (by first | exact pcc_5 | exact pcc_6 | exact pcc_7 | exact pcc_8 | exact pcc_9 | exact pcc_10 | exact pcc_11 | exact pcc_12 | exact pcc_13 | exact pcc_14 | exact pcc_15 | exact pcc_22) (by rfl) ?_
  refine z_il1 (pc' := 22) 12 rfl rfl ?_
  refine z_iald (pc' := 23) 13 rfl rfl (by first | exact pcc_5 | exact pcc_6 | exact pcc_7 | exact pcc_8 | exact pcc_9 | exact pcc_10 | exact pcc_11 | exact pcc_12 | exact pcc_13 | exact pcc_14 | exact pcc_15 | exact pcc_22) (by omega) (by decide) ?_
  refine z_al0 (pc' := 24) 14 rfl rfl ?_
  refine z_getf (pc' := 27) 15 rfl rfl f_Co_15_3 (by first | exact pcc_5 | exact pcc_6 | exact pcc_7 | exact pcc_8 | exact pcc_9 | exact pcc_10 | exact pcc_11 | exact pcc_12 | exact pcc_13 | exact pcc_14 | exact pcc_15 | exact pcc_22) (by rfl) ?_
  refine z_il3 (pc' := 28) 16 rfl rfl ?_
  refine z_iald (pc' := 29) 17 rfl rfl (by first | exact pcc_5 | exact pcc_6 | exact pcc_7 | exact pcc_8 | exact pcc_9 | exact pcc_10 | exact pcc_11 | exact pcc_12 | exact pcc_13 | exact pcc_14 | exact pcc_15 | exact pcc_22) (by omega) (by decide) ?_
  refine z_callS1 (pc' := 32) 18 rfl rfl k_Co_92 (c_Wb_turnBetween (by omega) (by omega)) (by decide) (Nat.le_refl _) (Nat.le_refl _) rfl rfl (Nat.le_of_ble_eq_true rfl) ?_
  refine z_is5 rfl rfl (pc' := 34) 19 rfl rfl ?_
  refine z_il4 (pc' := 36) 20 rfl rfl ?_
  refine z_il5 (pc' := 38) 21 rfl rfl ?_
  first | refine z_icmp_ltN (pc' := 41) 22 rfl rfl (tgt := 53) rfl (by omega) (by omega) (fun h38 => ?_) (fun h38 => ?_) | refine z_icmp_lt (pc' := 41) 22 rfl rfl (tgt := 53) rfl (fun h38 => ?_) (fun h38 => ?_)
  · refine z_iconst (v := nI 1) (by decide) (pc' := 54) 29 rfl rfl ?_
    refine z_goto 30 rfl (tgt := 58) rfl ?_
    exact z_ireturn 32 rfl rfl (by first | rfl | exact zbo_nar) rfl rfl (by exact ⟨by rw [zbo_t (wlB_i.mpr (by omega))], rfl⟩)
  · refine z_il4 (pc' := 43) 23 rfl rfl ?_
    refine z_il5 (pc' := 45) 24 rfl rfl ?_
    first | refine z_icmp_neN (pc' := 48) 25 rfl rfl (tgt := 57) rfl (by omega) (by omega) (fun h45 => ?_) (fun h45 => ?_) | refine z_icmp_ne (pc' := 48) 25 rfl rfl (tgt := 57) rfl (fun h45 => ?_) (fun h45 => ?_)
    · refine z_iconst (v := nI 0) (by decide) (pc' := 58) 31 rfl rfl ?_
      exact z_ireturn 32 rfl rfl (by first | rfl | exact zbo_nar) rfl rfl (by exact ⟨by rw [zbo_f (fun z => by have := wlB_i.mp z; omega)], rfl⟩)
    · refine z_il2 (pc' := 49) 26 rfl rfl ?_
      refine z_il3 (pc' := 50) 27 rfl rfl ?_
      first | refine z_icmp_geN (pc' := 53) 28 rfl rfl (tgt := 57) rfl (by omega) (by omega) (fun h50 => ?_) (fun h50 => ?_) | refine z_icmp_ge (pc' := 53) 28 rfl rfl (tgt := 57) rfl (fun h50 => ?_) (fun h50 => ?_)
      · refine z_iconst (v := nI 0) (by decide) (pc' := 58) 31 rfl rfl ?_
        exact z_ireturn 32 rfl rfl (by first | rfl | exact zbo_nar) rfl rfl (by exact ⟨by rw [zbo_f (fun z => by have := wlB_i.mp z; omega)], rfl⟩)
      · refine z_iconst (v := nI 1) (by decide) (pc' := 54) 29 rfl rfl ?_
        refine z_goto 30 rfl (tgt := 58) rfl ?_
        exact z_ireturn 32 rfl rfl (by first | rfl | exact zbo_nar) rfl rfl (by exact ⟨by rw [zbo_t (wlB_i.mpr (by omega))], rfl⟩)
set_option maxHeartbeats 4000000 in
set_option maxRecDepth 100000 in
theorem c_Mo_isLiked {G : zG} {n u : Nat} {ν : Nat → va_E} {s : Nat → Int32} {S : Nat → Nat → Nat} {mo : Nat} {pr fa : Nat → Nat} {sc ch : Int32} {rc : Nat} {ρ : Nat → Int32} (hi : iS S) {g w o : Nat} (hg : g < 6) (hw : w < 6) (ho : o < 6) :
    zMet G 2 M_Mo_isLiked [.ref 88, .int (nI w), .int (nI g), .int (nI o)] n u ((pm ν s (mk S mo pr fa sc ch rc ρ))) n u (zE (some (.int (zbo (wlB S w g o = true)))) (pm ν s (mk S mo pr fa sc ch rc ρ))) := by
  refine z_start (lv := [.ref 88, .int (nI w), .int (nI g), .int (nI o), .retAddr 0, .retAddr 0]) K_Mo_isLiked rfl rfl (Nat.le_refl _) (Nat.le_refl _) (Nat.le_of_ble_eq_true rfl) rfl ?_
  have hg1 := tn_lt hi (g := g) (w := w)
  have hg2 := tn_lt hi (g := o) (w := w)
  have hs4 := (hi.2.2.2.2.2 w).2.2.2.1
  have hs2 := (hi.2.2.2.2.2 g).2.1
  have hs3 := (hi.2.2.2.2.2 o).2.1
  refine z_al0 (pc' := 1) 0 rfl rfl ?_
  refine z_il2 (pc' := 2) 1 rfl rfl ?_
  refine z_il1 (pc' := 3) 2 rfl rfl ?_
  refine z_callV1 (pc' := 6) 3 rfl rfl k_Mo_81 (by first | exact pm_f | exact pm_1) (c_Mo_turnOf hi hg hw) (by decide) (Nat.le_refl _) (Nat.le_refl _) rfl rfl (Nat.le_of_ble_eq_true rfl) ?_
  refine z_is4 rfl rfl (pc' := 8) 4 rfl rfl ?_
  refine z_al0 (pc' := 9) 5 rfl rfl ?_
  refine z_il3 (pc' := 10) 6 rfl rfl ?_
  refine z_il1 (pc' := 11) 7 rfl rfl ?_
  refine z_callV1 (pc' := 14) 8 rfl rfl k_Mo_81 (by first | exact pm_f | exact pm_1) (c_Mo_turnOf hi ho hw) (by decide) (Nat.le_refl _) (Nat.le_refl _) rfl rfl (Nat.le_of_ble_eq_true rfl) ?_
  refine z_is5 rfl rfl (pc' := 16) 9 rfl rfl ?_
  refine z_il4 (pc' := 18) 10 rfl rfl ?_
  refine z_il5 (pc' := 20) 11 rfl rfl ?_
  first | refine z_icmp_ltN (pc' := 23) 12 rfl rfl (tgt := 35) rfl (by omega) (by omega) (fun h20 => ?_) (fun h20 => ?_) | refine z_icmp_lt (pc' := 23) 12 rfl rfl (tgt := 35) rfl (fun h20 => ?_) (fun h20 => ?_)
  · refine z_iconst (v := nI 1) (by decide) (pc' := 36) 19 rfl rfl ?_
    refine z_goto 20 rfl (tgt := 40) rfl ?_
    exact z_ireturn 22 rfl rfl (by first | rfl | exact zbo_nar) rfl rfl (by exact ⟨by rw [zbo_t (wlB_i.mpr (by omega))], rfl⟩)
  · refine z_il4 (pc' := 25) 13 rfl rfl ?_
    refine z_il5 (pc' := 27) 14 rfl rfl ?_
    first | refine z_icmp_neN (pc' := 30) 15 rfl rfl (tgt := 39) rfl (by omega) (by omega) (fun h27 => ?_) (fun h27 => ?_) | refine z_icmp_ne (pc' := 30) 15 rfl rfl (tgt := 39) rfl (fun h27 => ?_) (fun h27 => ?_)
    · refine z_iconst (v := nI 0) (by decide) (pc' := 40) 21 rfl rfl ?_
      exact z_ireturn 22 rfl rfl (by first | rfl | exact zbo_nar) rfl rfl (by exact ⟨by rw [zbo_f (fun z => by have := wlB_i.mp z; omega)], rfl⟩)
    · refine z_il2 (pc' := 31) 16 rfl rfl ?_
      refine z_il3 (pc' := 32) 17 rfl rfl ?_
      first | refine z_icmp_geN (pc' := 35) 18 rfl rfl (tgt := 39) rfl (by omega) (by omega) (fun h32 => ?_) (fun h32 => ?_) | refine z_icmp_ge (pc' := 35) 18 rfl rfl (tgt := 39) rfl (fun h32 => ?_) (fun h32 => ?_)
      · refine z_iconst (v := nI 0) (by decide) (pc' := 40) 21 rfl rfl ?_
        exact z_ireturn 22 rfl rfl (by first | rfl | exact zbo_nar) rfl rfl (by exact ⟨by rw [zbo_f (fun z => by have := wlB_i.mp z; omega)], rfl⟩)
      · refine z_iconst (v := nI 1) (by decide) (pc' := 36) 19 rfl rfl ?_
        refine z_goto 20 rfl (tgt := 40) rfl ?_
        exact z_ireturn 22 rfl rfl (by first | rfl | exact zbo_nar) rfl rfl (by exact ⟨by rw [zbo_t (wlB_i.mpr (by omega))], rfl⟩)
set_option maxHeartbeats 4000000 in
set_option maxRecDepth 100000 in
theorem l_Co_pairLeaves {G : zG} {n u : Nat} {ν : Nat → va_E} {S : Nat → Nat → Nat} {sc ch : Int32} {mo cs : Nat} {pr fa q : Nat → Nat} (hi : iS S) (hm : mo ≤ 16) (hx : iX S pr fa) {g w : Nat} (hg : g < S 0 0) (hw : w < S 0 1) {Φ : zP} : ∀ j k, k + j = S 0 0 → (Φ (some (.int (zbo (alN S pr g w j k = true)))) (pcc ν S sc ch mo cs pr fa q)) →
    zW G 3 M_Co_pairLeaves 35 [.ref 5, .int (nI g), .int (nI w), .int (nI k)] [] n u (pcc ν S sc ch mo cs pr fa q) n u Φ
  | 0, k, e, K => by
    have hi0 := hi.1
    have hi1 := hi.2.1
    have hpk := (hx k).1
    refine z_il3 (pc' := 36) 21 rfl rfl ?_
    refine z_al0 (pc' := 37) 22 rfl rfl ?_
    refine z_getf (pc' := 40) 23 rfl rfl f_Co_60_3 (by first | exact pcc_5 | exact pcc_6 | exact pcc_7 | exact pcc_8 | exact pcc_9 | exact pcc_10 | exact pcc_11 | exact pcc_12 | exact pcc_13 | exact pcc_14 | exact pcc_15 | exact pcc_22) (by rfl) ?_
    first | refine z_icmp_geN (pc' := 43) 24 rfl rfl (tgt := 74) rfl (by omega) (by omega) (fun h40 => ?_) (fun h40 => ?_) | refine z_icmp_ge (pc' := 43) 24 rfl rfl (tgt := 74) rfl (fun h40 => ?_) (fun h40 => ?_)
    · refine z_iconst (v := nI 1) (by decide) (pc' := 75) 42 rfl rfl ?_
      exact z_ireturn 43 rfl rfl (by first | rfl | exact zbo_nar) rfl rfl (by rw [zbo_t (show alN S pr g w 0 k = true from rfl)] at K; exact K)
    · exfalso; omega
  | j + 1, k, e, K => by
    have hi0 := hi.1
    have hi1 := hi.2.1
    have hpk := (hx k).1
    refine z_il3 (pc' := 36) 21 rfl rfl ?_
    refine z_al0 (pc' := 37) 22 rfl rfl ?_
    refine z_getf (pc' := 40) 23 rfl rfl f_Co_60_3 (by first | exact pcc_5 | exact pcc_6 | exact pcc_7 | exact pcc_8 | exact pcc_9 | exact pcc_10 | exact pcc_11 | exact pcc_12 | exact pcc_13 | exact pcc_14 | exact pcc_15 | exact pcc_22) (by rfl) ?_
    first | refine z_icmp_geN (pc' := 43) 24 rfl rfl (tgt := 74) rfl (by omega) (by omega) (fun h40 => ?_) (fun h40 => ?_) | refine z_icmp_ge (pc' := 43) 24 rfl rfl (tgt := 74) rfl (fun h40 => ?_) (fun h40 => ?_)
    · exfalso; omega
    · refine z_al0 (pc' := 44) 25 rfl rfl ?_
      refine z_getf (pc' := 47) 26 rfl rfl f_Co_43_3 (by first | exact pcc_5 | exact pcc_6 | exact pcc_7 | exact pcc_8 | exact pcc_9 | exact pcc_10 | exact pcc_11 | exact pcc_12 | exact pcc_13 | exact pcc_14 | exact pcc_15 | exact pcc_22) (by rfl) ?_
      refine z_getr (pc' := 50) 27 rfl rfl f_Co_109_4 (by first | exact pcc_5 | exact pcc_6 | exact pcc_7 | exact pcc_8 | exact pcc_9 | exact pcc_10 | exact pcc_11 | exact pcc_12 | exact pcc_13 | exact pcc_14 | exact pcc_15 | exact pcc_22) (by rfl) ?_
      refine z_il3 (pc' := 51) 28 rfl rfl ?_
      refine z_iald (pc' := 52) 29 rfl rfl (by first | exact pcc_5 | exact pcc_6 | exact pcc_7 | exact pcc_8 | exact pcc_9 | exact pcc_10 | exact pcc_11 | exact pcc_12 | exact pcc_13 | exact pcc_14 | exact pcc_15 | exact pcc_22) (by omega) (by decide) ?_
      refine z_il2 (pc' := 53) 30 rfl rfl ?_
      first | refine z_icmp_neN (pc' := 56) 31 rfl rfl (tgt := 68) rfl (by omega) (by omega) (fun h53 => ?_) (fun h53 => ?_) | refine z_icmp_ne (pc' := 56) 31 rfl rfl (tgt := 68) rfl (fun h53 => ?_) (fun h53 => ?_)
      · first | refine z_inc3N rfl rfl (pc' := 71) 40 rfl rfl ?_ | refine z_inc3 rfl rfl rfl (pc' := 71) 40 rfl rfl ?_
        refine z_goto 41 rfl (tgt := 35) rfl ?_
        refine l_Co_pairLeaves hi hm hx hg hw j (k + 1) (by omega) ?_
        have e9 : alN S pr g w (j + 1) k = alN S pr g w j (k + 1) := by
          show ((decide (pr k ≠ w) || wlB S w g k) && alN S pr g w j (k + 1)) = _
          rw [show decide (pr k ≠ w) = true from decide_eq_true h53, Bool.true_or, Bool.true_and]
        rw [e9] at K
        exact K
      · refine z_al0 (pc' := 57) 32 rfl rfl ?_
        refine z_il2 (pc' := 58) 33 rfl rfl ?_
        refine z_il1 (pc' := 59) 34 rfl rfl ?_
        refine z_il3 (pc' := 60) 35 rfl rfl ?_
        refine z_callV1 (pc' := 63) 36 rfl rfl k_Co_116 (by first | exact pcc_5 | exact pcc_6 | exact pcc_7 | exact pcc_8 | exact pcc_9 | exact pcc_10 | exact pcc_11 | exact pcc_12 | exact pcc_13 | exact pcc_14 | exact pcc_15 | exact pcc_22) (c_Co_windLikes hi (by omega) (by omega) (by omega)) (by decide) (Nat.le_refl _) (Nat.le_refl _) rfl rfl (Nat.le_of_ble_eq_true rfl) ?_
        first | refine z_if_neB (pc' := 66) 37 rfl rfl (tgt := 68) rfl (fun h63 => ?_) (fun h63 => ?_) | refine z_if_neN (pc' := 66) 37 rfl rfl (tgt := 68) rfl (by omega) (fun h63 => ?_) (fun h63 => ?_) | refine z_if_ne (pc' := 66) 37 rfl rfl (tgt := 68) rfl (fun h63 => ?_) (fun h63 => ?_)
        · first | refine z_inc3N rfl rfl (pc' := 71) 40 rfl rfl ?_ | refine z_inc3 rfl rfl rfl (pc' := 71) 40 rfl rfl ?_
          refine z_goto 41 rfl (tgt := 35) rfl ?_
          refine l_Co_pairLeaves hi hm hx hg hw j (k + 1) (by omega) ?_
          have e9 : alN S pr g w (j + 1) k = alN S pr g w j (k + 1) := by
            show ((decide (pr k ≠ w) || wlB S w g k) && alN S pr g w j (k + 1)) = _
            rw [h63, Bool.or_true, Bool.true_and]
          rw [e9] at K
          exact K
        · have e9 : ¬ alN S pr g w (j + 1) k = true := by
            unfold alN
            rw [show decide (pr k ≠ w) = false from decide_eq_false (fun z => z h53), Bool.false_or]
            intro z
            rw [Bool.and_eq_true] at z
            exact h63 z.1
          rw [zbo_f e9] at K
          refine z_iconst (v := nI 0) (by decide) (pc' := 67) 38 rfl rfl ?_
          exact z_ireturn 39 rfl rfl (by first | rfl | exact zbo_nar) rfl rfl (by exact K)
set_option maxHeartbeats 4000000 in
set_option maxRecDepth 100000 in
theorem c_Co_pairLeaves {G : zG} {n u : Nat} {ν : Nat → va_E} {S : Nat → Nat → Nat} {sc ch : Int32} {mo cs : Nat} {pr fa q : Nat → Nat} (hi : iS S) (hm : mo ≤ 16) (hx : iX S pr fa) {g w : Nat} (hg : g < S 0 0) (hw : w < S 0 1) :
    zMet G 3 M_Co_pairLeaves [.ref 5, .int (nI g), .int (nI w)] n u (pcc ν S sc ch mo cs pr fa q) n u (zE (some (.int (zbo (plB S mo pr g w = true)))) (pcc ν S sc ch mo cs pr fa q)) := by
  refine z_start (lv := [.ref 5, .int (nI g), .int (nI w), .retAddr 0]) K_Co_pairLeaves rfl rfl (Nat.le_refl _) (Nat.le_refl _) (Nat.le_of_ble_eq_true rfl) rfl ?_
  have hi0 := hi.1
  have hi1 := hi.2.1
  have hpk := (hx g).1
  refine z_al0 (pc' := 1) 0 rfl rfl ?_
  refine z_getf (pc' := 4) 1 rfl rfl f_Co_43_3 (by first | exact pcc_5 | exact pcc_6 | exact pcc_7 | exact pcc_8 | exact pcc_9 | exact pcc_10 | exact pcc_11 | exact pcc_12 | exact pcc_13 | exact pcc_14 | exact pcc_15 | exact pcc_22) (by rfl) ?_
  refine z_getr (pc' := 7) 2 rfl rfl f_Co_109_4 (by first | exact pcc_5 | exact pcc_6 | exact pcc_7 | exact pcc_8 | exact pcc_9 | exact pcc_10 | exact pcc_11 | exact pcc_12 | exact pcc_13 | exact pcc_14 | exact pcc_15 | exact pcc_22) (by rfl) ?_
  refine z_il1 (pc' := 8) 3 rfl rfl ?_
  refine z_iald (pc' := 9) 4 rfl rfl (by first | exact pcc_5 | exact pcc_6 | exact pcc_7 | exact pcc_8 | exact pcc_9 | exact pcc_10 | exact pcc_11 | exact pcc_12 | exact pcc_13 | exact pcc_14 | exact pcc_15 | exact pcc_22) (by omega) (by decide) ?_
  refine z_il2 (pc' := 10) 5 rfl rfl ?_
  first | refine z_icmp_eqN (pc' := 13) 6 rfl rfl (tgt := 31) rfl (by omega) (by omega) (fun h10 => ?_) (fun h10 => ?_) | refine z_icmp_eq (pc' := 13) 6 rfl rfl (tgt := 31) rfl (fun h10 => ?_) (fun h10 => ?_)
  · refine z_iconst (v := nI 0) (by decide) (pc' := 32) 17 rfl rfl ?_
    exact z_ireturn 18 rfl rfl (by first | rfl | exact zbo_nar) rfl rfl (by refine ⟨?_, rfl⟩; rw [zbo_f (fun z => by unfold plB at z; simp at z; exact z.1.1 h10)])
  · refine z_al0 (pc' := 14) 7 rfl rfl ?_
    refine z_il1 (pc' := 15) 8 rfl rfl ?_
    refine z_il2 (pc' := 16) 9 rfl rfl ?_
    refine z_al0 (pc' := 17) 10 rfl rfl ?_
    refine z_getf (pc' := 20) 11 rfl rfl f_Co_43_3 (by first | exact pcc_5 | exact pcc_6 | exact pcc_7 | exact pcc_8 | exact pcc_9 | exact pcc_10 | exact pcc_11 | exact pcc_12 | exact pcc_13 | exact pcc_14 | exact pcc_15 | exact pcc_22) (by rfl) ?_
    refine z_getr (pc' := 23) 12 rfl rfl f_Co_109_4 (by first | exact pcc_5 | exact pcc_6 | exact pcc_7 | exact pcc_8 | exact pcc_9 | exact pcc_10 | exact pcc_11 | exact pcc_12 | exact pcc_13 | exact pcc_14 | exact pcc_15 | exact pcc_22) (by rfl) ?_
    refine z_il1 (pc' := 24) 13 rfl rfl ?_
    refine z_iald (pc' := 25) 14 rfl rfl (by first | exact pcc_5 | exact pcc_6 | exact pcc_7 | exact pcc_8 | exact pcc_9 | exact pcc_10 | exact pcc_11 | exact pcc_12 | exact pcc_13 | exact pcc_14 | exact pcc_15 | exact pcc_22) (by omega) (by decide) ?_
    refine z_callV1 (pc' := 28) 15 rfl rfl k_Co_112 (by first | exact pcc_5 | exact pcc_6 | exact pcc_7 | exact pcc_8 | exact pcc_9 | exact pcc_10 | exact pcc_11 | exact pcc_12 | exact pcc_13 | exact pcc_14 | exact pcc_15 | exact pcc_22) (c_Co_girlLikes hi hm (by omega) (by omega) hpk) (by decide) (Nat.le_refl _) (Nat.le_refl _) rfl rfl (Nat.le_of_ble_eq_true rfl) ?_
    first | refine z_if_neB (pc' := 31) 16 rfl rfl (tgt := 33) rfl (fun h28 => ?_) (fun h28 => ?_) | refine z_if_neN (pc' := 31) 16 rfl rfl (tgt := 33) rfl (by omega) (fun h28 => ?_) (fun h28 => ?_) | refine z_if_ne (pc' := 31) 16 rfl rfl (tgt := 33) rfl (fun h28 => ?_) (fun h28 => ?_)
    · refine z_iconst (v := nI 0) (by decide) (pc' := 34) 19 rfl rfl ?_
      refine z_is3 rfl rfl (pc' := 35) 20 rfl rfl ?_
      refine l_Co_pairLeaves hi hm hx hg hw (S 0 0) 0 (by omega) ?_
      have e9 : plB S mo pr g w = alN S pr g w (S 0 0) 0 := by
        unfold plB
        rw [show decide (pr g ≠ w) = true from decide_eq_true h10, h28, Bool.true_and, Bool.true_and]
      exact ⟨by rw [e9], rfl⟩
    · refine z_iconst (v := nI 0) (by decide) (pc' := 32) 17 rfl rfl ?_
      exact z_ireturn 18 rfl rfl (by first | rfl | exact zbo_nar) rfl rfl (by refine ⟨?_, rfl⟩; rw [zbo_f (fun z => by unfold plB at z; simp at z; exact h28 z.1.2)])
set_option maxHeartbeats 4000000 in
set_option maxRecDepth 100000 in
theorem l_Mo_wouldLeave {G : zG} {n u : Nat} {ν : Nat → va_E} {s : Nat → Int32} {S : Nat → Nat → Nat} {mo : Nat} {pr fa : Nat → Nat} {sc ch : Int32} {rc : Nat} {ρ : Nat → Int32} (hi : iS S) (hm : mo ≤ 16) (hx : iX S pr fa) {g w : Nat} (hg : g < S 0 0) (hw : w < S 0 1) {Φ : zP} : ∀ j k, k + j = S 0 0 → (Φ (some (.int (zbo (alN S pr g w j k = true)))) (pm ν s (mk S mo pr fa sc ch rc ρ))) →
    zW G 4 M_Mo_wouldLeave 34 [.ref 88, .int (nI g), .int (nI w), .int (nI 1), .int (nI k)] [] n u (pm ν s (mk S mo pr fa sc ch rc ρ)) n u Φ
  | 0, k, e, K => by
    have hi0 := hi.1
    have hi1 := hi.2.1
    have hpk := (hx k).1
    refine z_il4 (pc' := 36) 21 rfl rfl ?_
    refine z_al0 (pc' := 37) 22 rfl rfl ?_
    refine z_getf (pc' := 40) 23 rfl rfl f_Mo_9_12 (by first | exact pm_f | exact pm_1) (by rfl) ?_
    refine z_iconst (v := nI 3) (by decide) (pc' := 41) 24 rfl rfl ?_
    refine z_iald (pc' := 42) 25 rfl rfl (by first | exact pm_f | exact pm_1) (by omega) (by decide) ?_
    rw [mk_3]
    first | refine z_icmp_geN (pc' := 45) 26 rfl rfl (tgt := 83) rfl (by omega) (by omega) (fun h42 => ?_) (fun h42 => ?_) | refine z_icmp_ge (pc' := 45) 26 rfl rfl (tgt := 83) rfl (fun h42 => ?_) (fun h42 => ?_)
    · refine z_il3 (pc' := 84) 47 rfl rfl ?_
      exact z_ireturn 48 rfl rfl (by first | rfl | exact zbo_nar) rfl rfl (by rw [zbo_t (show alN S pr g w 0 k = true from rfl)] at K; exact K)
    · exfalso; omega
  | j + 1, k, e, K => by
    have hi0 := hi.1
    have hi1 := hi.2.1
    have hpk := (hx k).1
    refine z_il4 (pc' := 36) 21 rfl rfl ?_
    refine z_al0 (pc' := 37) 22 rfl rfl ?_
    refine z_getf (pc' := 40) 23 rfl rfl f_Mo_9_12 (by first | exact pm_f | exact pm_1) (by rfl) ?_
    refine z_iconst (v := nI 3) (by decide) (pc' := 41) 24 rfl rfl ?_
    refine z_iald (pc' := 42) 25 rfl rfl (by first | exact pm_f | exact pm_1) (by omega) (by decide) ?_
    rw [mk_3]
    first | refine z_icmp_geN (pc' := 45) 26 rfl rfl (tgt := 83) rfl (by omega) (by omega) (fun h42 => ?_) (fun h42 => ?_) | refine z_icmp_ge (pc' := 45) 26 rfl rfl (tgt := 83) rfl (fun h42 => ?_) (fun h42 => ?_)
    · exfalso; omega
    · refine z_il3 (pc' := 46) 27 rfl rfl ?_
      refine z_if_eq_f (pc' := 49) 28 rfl rfl (tgt := 83) rfl (by decide) ?_
      refine z_al0 (pc' := 50) 29 rfl rfl ?_
      refine z_il4 (pc' := 52) 30 rfl rfl ?_
      refine z_iconst (v := nI 3) (by decide) (pc' := 53) 31 rfl rfl ?_
      refine z_callV1 (pc' := 56) 32 rfl rfl k_Mo_75 (by first | exact pm_f | exact pm_1) (c_Mo_of3 (by omega)) (by decide) (Nat.le_refl _) (Nat.le_refl _) rfl rfl (Nat.le_of_ble_eq_true rfl) ?_
      refine z_il2 (pc' := 57) 33 rfl rfl ?_
      first | refine z_icmp_neH (pc' := 60) 34 rfl rfl (tgt := 71) rfl (by omega) (by omega) (fun h57 => ?_) (fun h57 => ?_) | refine z_icmp_neN (pc' := 60) 34 rfl rfl (tgt := 71) rfl (by omega) (by omega) (fun h57 => ?_) (fun h57 => ?_) | refine z_icmp_ne (pc' := 60) 34 rfl rfl (tgt := 71) rfl (fun h57 => ?_) (fun h57 => ?_)
      · refine z_iconst (v := nI 1) (by decide) (pc' := 72) 41 rfl rfl ?_
        refine z_goto 42 rfl (tgt := 76) rfl ?_
        refine z_is3 rfl rfl (pc' := 77) 44 rfl rfl ?_
        first | refine z_inc4N rfl rfl (pc' := 80) 45 rfl rfl ?_ | refine z_inc4 rfl rfl rfl (pc' := 80) 45 rfl rfl ?_
        refine z_goto 46 rfl (tgt := 34) rfl ?_
        refine l_Mo_wouldLeave hi hm hx hg hw j (k + 1) (by omega) ?_
        have e9 : alN S pr g w (j + 1) k = alN S pr g w j (k + 1) := by
          show ((decide (pr k ≠ w) || wlB S w g k) && alN S pr g w j (k + 1)) = _
          rw [show decide (pr k ≠ w) = true from decide_eq_true h57, Bool.true_or, Bool.true_and]
        rw [e9] at K
        exact K
      · refine z_al0 (pc' := 61) 35 rfl rfl ?_
        refine z_il2 (pc' := 62) 36 rfl rfl ?_
        refine z_il1 (pc' := 63) 37 rfl rfl ?_
        refine z_il4 (pc' := 65) 38 rfl rfl ?_
        refine z_callV1 (pc' := 68) 39 rfl rfl k_Mo_239 (by first | exact pm_f | exact pm_1) (c_Mo_isLiked hi (by omega) (by omega) (by omega)) (by decide) (Nat.le_refl _) (Nat.le_refl _) rfl rfl (Nat.le_of_ble_eq_true rfl) ?_
        first | refine z_if_eqB (pc' := 71) 40 rfl rfl (tgt := 75) rfl (fun h68 => ?_) (fun h68 => ?_) | refine z_if_eqN (pc' := 71) 40 rfl rfl (tgt := 75) rfl (by omega) (fun h68 => ?_) (fun h68 => ?_) | refine z_if_eq (pc' := 71) 40 rfl rfl (tgt := 75) rfl (fun h68 => ?_) (fun h68 => ?_)
        · refine z_iconst (v := nI 0) (by decide) (pc' := 76) 43 rfl rfl ?_
          refine z_is3 rfl rfl (pc' := 77) 44 rfl rfl ?_
          first | refine z_inc4N rfl rfl (pc' := 80) 45 rfl rfl ?_ | refine z_inc4 rfl rfl rfl (pc' := 80) 45 rfl rfl ?_
          refine z_goto 46 rfl (tgt := 34) rfl ?_
          have e9 : ¬ alN S pr g w (j + 1) k = true := by
            unfold alN
            rw [show decide (pr k ≠ w) = false from decide_eq_false (fun z => z h57), Bool.false_or]
            intro z
            rw [Bool.and_eq_true] at z
            exact h68 z.1
          rw [zbo_f e9] at K
          refine z_il4 (pc' := 36) 21 rfl rfl ?_
          refine z_al0 (pc' := 37) 22 rfl rfl ?_
          refine z_getf (pc' := 40) 23 rfl rfl f_Mo_9_12 (by first | exact pm_f | exact pm_1) (by rfl) ?_
          refine z_iconst (v := nI 3) (by decide) (pc' := 41) 24 rfl rfl ?_
          refine z_iald (pc' := 42) 25 rfl rfl (by first | exact pm_f | exact pm_1) (by omega) (by decide) ?_
          rw [mk_3]
          first | refine z_icmp_geN (pc' := 45) 26 rfl rfl (tgt := 83) rfl (by omega) (by omega) (fun h42 => ?_) (fun h42 => ?_) | refine z_icmp_ge (pc' := 45) 26 rfl rfl (tgt := 83) rfl (fun h42 => ?_) (fun h42 => ?_)
          · refine z_il3 (pc' := 84) 47 rfl rfl ?_
            exact z_ireturn 48 rfl rfl (by first | rfl | exact zbo_nar) rfl rfl (by exact K)
          · refine z_il3 (pc' := 46) 27 rfl rfl ?_
            refine z_if_eq_t 28 rfl (tgt := 83) rfl (by decide) ?_
            refine z_il3 (pc' := 84) 47 rfl rfl ?_
            exact z_ireturn 48 rfl rfl (by first | rfl | exact zbo_nar) rfl rfl (by exact K)
        · refine z_iconst (v := nI 1) (by decide) (pc' := 72) 41 rfl rfl ?_
          refine z_goto 42 rfl (tgt := 76) rfl ?_
          refine z_is3 rfl rfl (pc' := 77) 44 rfl rfl ?_
          first | refine z_inc4N rfl rfl (pc' := 80) 45 rfl rfl ?_ | refine z_inc4 rfl rfl rfl (pc' := 80) 45 rfl rfl ?_
          refine z_goto 46 rfl (tgt := 34) rfl ?_
          refine l_Mo_wouldLeave hi hm hx hg hw j (k + 1) (by omega) ?_
          have e9 : alN S pr g w (j + 1) k = alN S pr g w j (k + 1) := by
            show ((decide (pr k ≠ w) || wlB S w g k) && alN S pr g w j (k + 1)) = _
            rw [h68, Bool.or_true, Bool.true_and]
          rw [e9] at K
          exact K
section ZH9
variable {G : zG} {d : Nat} {M : zM} {pc pc' : Nat} {lv st : List Value} {n u : Nat} {μ : Nat → va_E} {nF uF : Nat} {Φ : zP}
theorem z_icmp_eqH {p w : Nat} {off : Int} {tgt : Nat} (k : Nat) (hd : (mI M)[k]? = some (pc, .if_icmp .eq off, 3)) (hp : pc + 3 = pc') (ht : (pc : Int) + off = (tgt : Int)) (hpp : p ≤ 6) (hw : w < 6) (kt : p = w → zW G d M tgt lv st n u μ nF uF Φ) (kf : p ≠ w → zW G d M pc' lv st n u μ nF uF Φ) : zW G d M pc lv (.int (nI w) :: .int (hasI p) :: st) n u μ nF uF Φ :=
  z_icmp_eq k hd hp ht (fun h => kt ((hasI_eq hpp hw).mp h)) (fun h => kf (fun z => h ((hasI_eq hpp hw).mpr z)))
end ZH9
set_option maxHeartbeats 4000000 in
set_option maxRecDepth 100000 in
theorem c_Mo_wouldLeave {G : zG} {n u : Nat} {ν : Nat → va_E} {s : Nat → Int32} {S : Nat → Nat → Nat} {mo : Nat} {pr fa : Nat → Nat} {sc ch : Int32} {rc : Nat} {ρ : Nat → Int32} (hi : iS S) (hm : mo ≤ 16) (hx : iX S pr fa) {g w : Nat} (hg : g < S 0 0) (hw : w < S 0 1) :
    zMet G 4 M_Mo_wouldLeave [.ref 88, .int (nI g), .int (nI w)] n u ((pm ν s (mk S mo pr fa sc ch rc ρ))) n u (zE (some (.int (zbo (plB S mo pr g w = true)))) (pm ν s (mk S mo pr fa sc ch rc ρ))) := by
  refine z_start (lv := [.ref 88, .int (nI g), .int (nI w), .retAddr 0, .retAddr 0]) K_Mo_wouldLeave rfl rfl (Nat.le_refl _) (Nat.le_refl _) (Nat.le_of_ble_eq_true rfl) rfl ?_
  have hi0 := hi.1
  have hi1 := hi.2.1
  have hpk := (hx g).1
  refine z_al0 (pc' := 1) 0 rfl rfl ?_
  refine z_il1 (pc' := 2) 1 rfl rfl ?_
  refine z_iconst (v := nI 3) (by decide) (pc' := 3) 2 rfl rfl ?_
  refine z_callV1 (pc' := 6) 3 rfl rfl k_Mo_75 (by first | exact pm_f | exact pm_1) (c_Mo_of3 (by omega)) (by decide) (Nat.le_refl _) (Nat.le_refl _) rfl rfl (Nat.le_of_ble_eq_true rfl) ?_
  refine z_il2 (pc' := 7) 4 rfl rfl ?_
  first | refine z_icmp_eqH (pc' := 10) 5 rfl rfl (tgt := 29) rfl (by omega) (by omega) (fun h7 => ?_) (fun h7 => ?_) | refine z_icmp_eqN (pc' := 10) 5 rfl rfl (tgt := 29) rfl (by omega) (by omega) (fun h7 => ?_) (fun h7 => ?_) | refine z_icmp_eq (pc' := 10) 5 rfl rfl (tgt := 29) rfl (fun h7 => ?_) (fun h7 => ?_)
  · refine z_iconst (v := nI 0) (by decide) (pc' := 30) 17 rfl rfl ?_
    refine z_is3 rfl rfl (pc' := 31) 18 rfl rfl ?_
    refine z_iconst (v := nI 0) (by decide) (pc' := 32) 19 rfl rfl ?_
    refine z_is4 rfl rfl (pc' := 34) 20 rfl rfl ?_
    have e9 : ¬ plB S mo pr g w = true := fun z => by
      unfold plB at z
      simp at z
      exact z.1.1 h7
    refine z_il4 (pc' := 36) 21 rfl rfl ?_
    refine z_al0 (pc' := 37) 22 rfl rfl ?_
    refine z_getf (pc' := 40) 23 rfl rfl f_Mo_9_12 (by first | exact pm_f | exact pm_1) (by rfl) ?_
    refine z_iconst (v := nI 3) (by decide) (pc' := 41) 24 rfl rfl ?_
    refine z_iald (pc' := 42) 25 rfl rfl (by first | exact pm_f | exact pm_1) (by omega) (by decide) ?_
    rw [mk_3]
    first | refine z_icmp_geN (pc' := 45) 26 rfl rfl (tgt := 83) rfl (by omega) (by omega) (fun h42 => ?_) (fun h42 => ?_) | refine z_icmp_ge (pc' := 45) 26 rfl rfl (tgt := 83) rfl (fun h42 => ?_) (fun h42 => ?_)
    · refine z_il3 (pc' := 84) 47 rfl rfl ?_
      exact z_ireturn 48 rfl rfl (by first | rfl | exact zbo_nar) rfl rfl (by exact ⟨by rw [zbo_f e9], rfl⟩)
    · refine z_il3 (pc' := 46) 27 rfl rfl ?_
      refine z_if_eq_t 28 rfl (tgt := 83) rfl (by decide) ?_
      refine z_il3 (pc' := 84) 47 rfl rfl ?_
      exact z_ireturn 48 rfl rfl (by first | rfl | exact zbo_nar) rfl rfl (by exact ⟨by rw [zbo_f e9], rfl⟩)
  · refine z_al0 (pc' := 11) 6 rfl rfl ?_
    refine z_il1 (pc' := 12) 7 rfl rfl ?_
    refine z_il2 (pc' := 13) 8 rfl rfl ?_
    refine z_al0 (pc' := 14) 9 rfl rfl ?_
    refine z_il1 (pc' := 15) 10 rfl rfl ?_
    refine z_iconst (v := nI 3) (by decide) (pc' := 16) 11 rfl rfl ?_
    refine z_callV1 (pc' := 19) 12 rfl rfl k_Mo_75 (by first | exact pm_f | exact pm_1) (c_Mo_of3 (by omega)) (by decide) (Nat.le_refl _) (Nat.le_refl _) rfl rfl (Nat.le_of_ble_eq_true rfl) ?_
    refine z_callV1 (pc' := 22) 13 rfl rfl k_Mo_236 (by first | exact pm_f | exact pm_1) (c_Mo_likes hi hm (by omega) (by omega) hpk) (by decide) (Nat.le_refl _) (Nat.le_refl _) rfl rfl (Nat.le_of_ble_eq_true rfl) ?_
    first | refine z_if_eqB (pc' := 25) 14 rfl rfl (tgt := 29) rfl (fun h22 => ?_) (fun h22 => ?_) | refine z_if_eqN (pc' := 25) 14 rfl rfl (tgt := 29) rfl (by omega) (fun h22 => ?_) (fun h22 => ?_) | refine z_if_eq (pc' := 25) 14 rfl rfl (tgt := 29) rfl (fun h22 => ?_) (fun h22 => ?_)
    · refine z_iconst (v := nI 0) (by decide) (pc' := 30) 17 rfl rfl ?_
      refine z_is3 rfl rfl (pc' := 31) 18 rfl rfl ?_
      refine z_iconst (v := nI 0) (by decide) (pc' := 32) 19 rfl rfl ?_
      refine z_is4 rfl rfl (pc' := 34) 20 rfl rfl ?_
      have e9 : ¬ plB S mo pr g w = true := fun z => by
        unfold plB at z
        simp at z
        exact h22 z.1.2
      refine z_il4 (pc' := 36) 21 rfl rfl ?_
      refine z_al0 (pc' := 37) 22 rfl rfl ?_
      refine z_getf (pc' := 40) 23 rfl rfl f_Mo_9_12 (by first | exact pm_f | exact pm_1) (by rfl) ?_
      refine z_iconst (v := nI 3) (by decide) (pc' := 41) 24 rfl rfl ?_
      refine z_iald (pc' := 42) 25 rfl rfl (by first | exact pm_f | exact pm_1) (by omega) (by decide) ?_
      rw [mk_3]
      first | refine z_icmp_geN (pc' := 45) 26 rfl rfl (tgt := 83) rfl (by omega) (by omega) (fun h42 => ?_) (fun h42 => ?_) | refine z_icmp_ge (pc' := 45) 26 rfl rfl (tgt := 83) rfl (fun h42 => ?_) (fun h42 => ?_)
      · refine z_il3 (pc' := 84) 47 rfl rfl ?_
        exact z_ireturn 48 rfl rfl (by first | rfl | exact zbo_nar) rfl rfl (by exact ⟨by rw [zbo_f e9], rfl⟩)
      · refine z_il3 (pc' := 46) 27 rfl rfl ?_
        refine z_if_eq_t 28 rfl (tgt := 83) rfl (by decide) ?_
        refine z_il3 (pc' := 84) 47 rfl rfl ?_
        exact z_ireturn 48 rfl rfl (by first | rfl | exact zbo_nar) rfl rfl (by exact ⟨by rw [zbo_f e9], rfl⟩)
    · refine z_iconst (v := nI 1) (by decide) (pc' := 26) 15 rfl rfl ?_
      refine z_goto 16 rfl (tgt := 30) rfl ?_
      refine z_is3 rfl rfl (pc' := 31) 18 rfl rfl ?_
      refine z_iconst (v := nI 0) (by decide) (pc' := 32) 19 rfl rfl ?_
      refine z_is4 rfl rfl (pc' := 34) 20 rfl rfl ?_
      refine l_Mo_wouldLeave hi hm hx hg hw (S 0 0) 0 (by omega) ?_
      have e9 : plB S mo pr g w = alN S pr g w (S 0 0) 0 := by
        unfold plB
        rw [show decide (pr g ≠ w) = true from decide_eq_true h7, h22, Bool.true_and, Bool.true_and]
      exact ⟨by rw [e9], rfl⟩
