set_option maxHeartbeats 4000000 in
set_option maxRecDepth 100000 in
theorem l_Wb_leave1 {G : zG} {n u : Nat} {Φ : zP} {ν : Nat → va_E} {S : Nat → Nat → Nat} {sc ch : Int32} {mo cs : Nat} {pr fa q : Nat → Nat} {kp : Int32} {ac : Value} (hob : isOb ν kp ac) (hi : iS S) (hm : mo ≤ 16) (hx : iX S pr fa) {g : Nat} (hg : g < S 0 0) : ∀ j w a, w + j = S 0 1 →
    (zW G 4 M_Wb_leave 54 [.ref 4, .int (nI (lvA S mo pr g j w a)), .int (nI g), .int (nI (S 0 1))] [] n u (pcc ν S sc ch mo cs pr fa q) n u Φ) →
    zW G 4 M_Wb_leave 17 [.ref 4, .int (nI a), .int (nI g), .int (nI w)] [] n u (pcc ν S sc ch mo cs pr fa q) n u Φ
  | 0, w, a, e, K => by
    have hi0 := hi.1
    have hi1 := hi.2.1
    have hob0 := hob
    unfold isOb at hob
    obtain rfl : w = S 0 1 := by omega
    refine z_il3 (pc' := 18) 11 rfl rfl ?_
    refine z_al0 (pc' := 19) 12 rfl rfl ?_
    refine z_getf (pc' := 22) 13 rfl rfl f_Wb_10_11 (by first | exact pcc_5 | exact pcc_6 | exact pcc_7 | exact pcc_8 | exact pcc_9 | exact pcc_10 | exact pcc_11 | exact pcc_12 | exact pcc_13 | exact pcc_14 | exact pcc_15 | exact pcc_22 | (rw [pcc_o (by decide)]; assumption)) (by rfl) ?_
    refine z_getf (pc' := 25) 14 rfl rfl f_Wb_110_3 (by first | exact pcc_5 | exact pcc_6 | exact pcc_7 | exact pcc_8 | exact pcc_9 | exact pcc_10 | exact pcc_11 | exact pcc_12 | exact pcc_13 | exact pcc_14 | exact pcc_15 | exact pcc_22 | (rw [pcc_o (by decide)]; assumption)) (by rfl) ?_
    first | refine z_icmp_geN (pc' := 28) 15 rfl rfl (tgt := 54) rfl (by omega) (by omega) (fun h25 => ?_) (fun h25 => ?_) | refine z_icmp_ge (pc' := 28) 15 rfl rfl (tgt := 54) rfl (fun h25 => ?_) (fun h25 => ?_)
    · exact K
    · exfalso; omega
  | j + 1, w, a, e, K => by
    have hi0 := hi.1
    have hi1 := hi.2.1
    have hob0 := hob
    unfold isOb at hob
    refine z_il3 (pc' := 18) 11 rfl rfl ?_
    refine z_al0 (pc' := 19) 12 rfl rfl ?_
    refine z_getf (pc' := 22) 13 rfl rfl f_Wb_10_11 (by first | exact pcc_5 | exact pcc_6 | exact pcc_7 | exact pcc_8 | exact pcc_9 | exact pcc_10 | exact pcc_11 | exact pcc_12 | exact pcc_13 | exact pcc_14 | exact pcc_15 | exact pcc_22 | (rw [pcc_o (by decide)]; assumption)) (by rfl) ?_
    refine z_getf (pc' := 25) 14 rfl rfl f_Wb_110_3 (by first | exact pcc_5 | exact pcc_6 | exact pcc_7 | exact pcc_8 | exact pcc_9 | exact pcc_10 | exact pcc_11 | exact pcc_12 | exact pcc_13 | exact pcc_14 | exact pcc_15 | exact pcc_22 | (rw [pcc_o (by decide)]; assumption)) (by rfl) ?_
    first | refine z_icmp_geN (pc' := 28) 15 rfl rfl (tgt := 54) rfl (by omega) (by omega) (fun h25 => ?_) (fun h25 => ?_) | refine z_icmp_ge (pc' := 28) 15 rfl rfl (tgt := 54) rfl (fun h25 => ?_) (fun h25 => ?_)
    · exfalso; omega
    · refine z_il1 (pc' := 29) 16 rfl rfl ?_
      refine z_al0 (pc' := 30) 17 rfl rfl ?_
      refine z_getf (pc' := 33) 18 rfl rfl f_Wb_10_11 (by first | exact pcc_5 | exact pcc_6 | exact pcc_7 | exact pcc_8 | exact pcc_9 | exact pcc_10 | exact pcc_11 | exact pcc_12 | exact pcc_13 | exact pcc_14 | exact pcc_15 | exact pcc_22 | (rw [pcc_o (by decide)]; assumption)) (by rfl) ?_
      refine z_il2 (pc' := 34) 19 rfl rfl ?_
      refine z_il3 (pc' := 35) 20 rfl rfl ?_
      refine z_callV1 (pc' := 38) 21 rfl rfl k_Wb_194 (by first | exact pcc_5 | exact pcc_6 | exact pcc_7 | exact pcc_8 | exact pcc_9 | exact pcc_10 | exact pcc_11 | exact pcc_12 | exact pcc_13 | exact pcc_14 | exact pcc_15 | exact pcc_22 | (rw [pcc_o (by decide)]; assumption)) (c_Co_pairLeaves hi hm hx hg (by omega)) (by decide) (Nat.le_refl _) (Nat.le_refl _) rfl rfl (Nat.le_of_ble_eq_true rfl) ?_
      first | refine z_if_eqB (pc' := 41) 22 rfl rfl (tgt := 45) rfl (fun h38 => ?_) (fun h38 => ?_) | refine z_if_eqN (pc' := 41) 22 rfl rfl (tgt := 45) rfl (by omega) (fun h38 => ?_) (fun h38 => ?_) | refine z_if_eq (pc' := 41) 22 rfl rfl (tgt := 45) rfl (fun h38 => ?_) (fun h38 => ?_)
      · refine z_iconst (v := nI 0) (by decide) (pc' := 46) 25 rfl rfl ?_
        first | refine z_iaddN (pc' := 47) 26 rfl rfl ?_ | refine z_iadd (pc' := 47) 26 rfl rfl ?_
        refine z_is1 rfl rfl (pc' := 48) 27 rfl rfl ?_
        first | refine z_inc3N rfl rfl (pc' := 51) 28 rfl rfl ?_ | refine z_inc3 rfl rfl rfl (pc' := 51) 28 rfl rfl ?_
        refine z_goto 29 rfl (tgt := 17) rfl ?_
        refine l_Wb_leave1 hob0 hi hm hx hg j (w + 1) _ (by omega) ?_
        have e9 : lvA S mo pr g (j + 1) w a = lvA S mo pr g j (w + 1) (a + 0) := by
          show lvA S mo pr g j (w + 1) (a + if plB S mo pr g w = true then 1 else 0) = _
          rw [if_neg h38]
        rw [e9] at K
        exact K
      · refine z_iconst (v := nI 1) (by decide) (pc' := 42) 23 rfl rfl ?_
        refine z_goto 24 rfl (tgt := 46) rfl ?_
        first | refine z_iaddN (pc' := 47) 26 rfl rfl ?_ | refine z_iadd (pc' := 47) 26 rfl rfl ?_
        refine z_is1 rfl rfl (pc' := 48) 27 rfl rfl ?_
        first | refine z_inc3N rfl rfl (pc' := 51) 28 rfl rfl ?_ | refine z_inc3 rfl rfl rfl (pc' := 51) 28 rfl rfl ?_
        refine z_goto 29 rfl (tgt := 17) rfl ?_
        refine l_Wb_leave1 hob0 hi hm hx hg j (w + 1) _ (by omega) ?_
        have e9 : lvA S mo pr g (j + 1) w a = lvA S mo pr g j (w + 1) (a + 1) := by
          show lvA S mo pr g j (w + 1) (a + if plB S mo pr g w = true then 1 else 0) = _
          rw [if_pos h38]
        rw [e9] at K
        exact K
set_option maxHeartbeats 4000000 in
set_option maxRecDepth 100000 in
theorem l_Wb_leave2 {G : zG} {n u : Nat} {Φ : zP} {ν : Nat → va_E} {S : Nat → Nat → Nat} {sc ch : Int32} {mo cs : Nat} {pr fa q : Nat → Nat} {kp : Int32} {ac : Value} (hob : isOb ν kp ac) (hi : iS S) (hm : mo ≤ 16) (hx : iX S pr fa) : ∀ j g a, g + j = S 0 0 → (∀ v g', zW G 4 M_Wb_leave 60 [.ref 4, .int (nI (lvG S mo pr j g a)), .int g', v] [] n u (pcc ν S sc ch mo cs pr fa q) n u Φ) →
    zW G 4 M_Wb_leave 4 [.ref 4, .int (nI a), .int (nI g), .retAddr 0] [] n u (pcc ν S sc ch mo cs pr fa q) n u Φ
  | 0, g, a, e, K => by
    have hi0 := hi.1
    have hi1 := hi.2.1
    have hob0 := hob
    unfold isOb at hob
    refine z_il2 (pc' := 5) 4 rfl rfl ?_
    refine z_al0 (pc' := 6) 5 rfl rfl ?_
    refine z_getf (pc' := 9) 6 rfl rfl f_Wb_10_11 (by first | exact pcc_5 | exact pcc_6 | exact pcc_7 | exact pcc_8 | exact pcc_9 | exact pcc_10 | exact pcc_11 | exact pcc_12 | exact pcc_13 | exact pcc_14 | exact pcc_15 | exact pcc_22 | (rw [pcc_o (by decide)]; assumption)) (by rfl) ?_
    refine z_getf (pc' := 12) 7 rfl rfl f_Wb_76_3 (by first | exact pcc_5 | exact pcc_6 | exact pcc_7 | exact pcc_8 | exact pcc_9 | exact pcc_10 | exact pcc_11 | exact pcc_12 | exact pcc_13 | exact pcc_14 | exact pcc_15 | exact pcc_22 | (rw [pcc_o (by decide)]; assumption)) (by rfl) ?_
    first | refine z_icmp_geN (pc' := 15) 8 rfl rfl (tgt := 60) rfl (by omega) (by omega) (fun h12 => ?_) (fun h12 => ?_) | refine z_icmp_ge (pc' := 15) 8 rfl rfl (tgt := 60) rfl (fun h12 => ?_) (fun h12 => ?_)
    · exact K _ _
    · exfalso; omega
  | j + 1, g, a, e, K => by
    have hi0 := hi.1
    have hi1 := hi.2.1
    have hob0 := hob
    unfold isOb at hob
    refine z_il2 (pc' := 5) 4 rfl rfl ?_
    refine z_al0 (pc' := 6) 5 rfl rfl ?_
    refine z_getf (pc' := 9) 6 rfl rfl f_Wb_10_11 (by first | exact pcc_5 | exact pcc_6 | exact pcc_7 | exact pcc_8 | exact pcc_9 | exact pcc_10 | exact pcc_11 | exact pcc_12 | exact pcc_13 | exact pcc_14 | exact pcc_15 | exact pcc_22 | (rw [pcc_o (by decide)]; assumption)) (by rfl) ?_
    refine z_getf (pc' := 12) 7 rfl rfl f_Wb_76_3 (by first | exact pcc_5 | exact pcc_6 | exact pcc_7 | exact pcc_8 | exact pcc_9 | exact pcc_10 | exact pcc_11 | exact pcc_12 | exact pcc_13 | exact pcc_14 | exact pcc_15 | exact pcc_22 | (rw [pcc_o (by decide)]; assumption)) (by rfl) ?_
    first | refine z_icmp_geN (pc' := 15) 8 rfl rfl (tgt := 60) rfl (by omega) (by omega) (fun h12 => ?_) (fun h12 => ?_) | refine z_icmp_ge (pc' := 15) 8 rfl rfl (tgt := 60) rfl (fun h12 => ?_) (fun h12 => ?_)
    · exfalso; omega
    · refine z_iconst (v := nI 0) (by decide) (pc' := 16) 9 rfl rfl ?_
      refine z_is3 rfl rfl (pc' := 17) 10 rfl rfl ?_
      refine l_Wb_leave1 hob0 hi hm hx (by omega) (S 0 1) 0 _ (by omega) ?_
      first | refine z_inc2N rfl rfl (pc' := 57) 30 rfl rfl ?_ | refine z_inc2 rfl rfl rfl (pc' := 57) 30 rfl rfl ?_
      refine z_goto 31 rfl (tgt := 4) rfl ?_
      refine z_less3 ?_
      exact l_Wb_leave2 hob0 hi hm hx j (g + 1) _ (by omega) K
set_option maxHeartbeats 4000000 in
set_option maxRecDepth 100000 in
theorem l_Mo_leave1 {G : zG} {n u : Nat} {Φ : zP} {ν : Nat → va_E} {s : Nat → Int32} {S : Nat → Nat → Nat} {mo : Nat} {pr fa : Nat → Nat} {sc ch : Int32} {rc : Nat} {ρ : Nat → Int32} (hi : iS S) (hm : mo ≤ 16) (hx : iX S pr fa) {g : Nat} (hg : g < S 0 0) : ∀ j w a, w + j = S 0 1 →
    (zW G 5 M_Mo_leave 49 [.ref 88, .int (nI (lvA S mo pr g j w a)), .int (nI g), .int (nI (S 0 1))] [] n u (pm ν s (mk S mo pr fa sc ch rc ρ)) n u Φ) →
    zW G 5 M_Mo_leave 16 [.ref 88, .int (nI a), .int (nI g), .int (nI w)] [] n u (pm ν s (mk S mo pr fa sc ch rc ρ)) n u Φ
  | 0, w, a, e, K => by
    have hi0 := hi.1
    have hi1 := hi.2.1
    obtain rfl : w = S 0 1 := by omega
    refine z_il3 (pc' := 17) 12 rfl rfl ?_
    refine z_al0 (pc' := 18) 13 rfl rfl ?_
    refine z_getf (pc' := 21) 14 rfl rfl f_Mo_9_12 (by first | exact pm_f | exact pm_1) (by rfl) ?_
    refine z_iconst (v := nI 2) (by decide) (pc' := 22) 15 rfl rfl ?_
    refine z_iald (pc' := 23) 16 rfl rfl (by first | exact pm_f | exact pm_1) (by omega) (by decide) ?_
    rw [mk_2]
    first | refine z_icmp_geN (pc' := 26) 17 rfl rfl (tgt := 49) rfl (by omega) (by omega) (fun h23 => ?_) (fun h23 => ?_) | refine z_icmp_ge (pc' := 26) 17 rfl rfl (tgt := 49) rfl (fun h23 => ?_) (fun h23 => ?_)
    · exact K
    · exfalso; omega
  | j + 1, w, a, e, K => by
    have hi0 := hi.1
    have hi1 := hi.2.1
    refine z_il3 (pc' := 17) 12 rfl rfl ?_
    refine z_al0 (pc' := 18) 13 rfl rfl ?_
    refine z_getf (pc' := 21) 14 rfl rfl f_Mo_9_12 (by first | exact pm_f | exact pm_1) (by rfl) ?_
    refine z_iconst (v := nI 2) (by decide) (pc' := 22) 15 rfl rfl ?_
    refine z_iald (pc' := 23) 16 rfl rfl (by first | exact pm_f | exact pm_1) (by omega) (by decide) ?_
    rw [mk_2]
    first | refine z_icmp_geN (pc' := 26) 17 rfl rfl (tgt := 49) rfl (by omega) (by omega) (fun h23 => ?_) (fun h23 => ?_) | refine z_icmp_ge (pc' := 26) 17 rfl rfl (tgt := 49) rfl (fun h23 => ?_) (fun h23 => ?_)
    · exfalso; omega
    · refine z_il1 (pc' := 27) 18 rfl rfl ?_
      refine z_al0 (pc' := 28) 19 rfl rfl ?_
      refine z_il2 (pc' := 29) 20 rfl rfl ?_
      refine z_il3 (pc' := 30) 21 rfl rfl ?_
      refine z_callV1 (pc' := 33) 22 rfl rfl k_Mo_242 (by first | exact pm_f | exact pm_1) (c_Mo_wouldLeave hi hm hx hg (by omega)) (by decide) (Nat.le_refl _) (Nat.le_refl _) rfl rfl (Nat.le_of_ble_eq_true rfl) ?_
      first | refine z_if_eqB (pc' := 36) 23 rfl rfl (tgt := 40) rfl (fun h33 => ?_) (fun h33 => ?_) | refine z_if_eqN (pc' := 36) 23 rfl rfl (tgt := 40) rfl (by omega) (fun h33 => ?_) (fun h33 => ?_) | refine z_if_eq (pc' := 36) 23 rfl rfl (tgt := 40) rfl (fun h33 => ?_) (fun h33 => ?_)
      · refine z_iconst (v := nI 0) (by decide) (pc' := 41) 26 rfl rfl ?_
        first | refine z_iaddN (pc' := 42) 27 rfl rfl ?_ | refine z_iadd (pc' := 42) 27 rfl rfl ?_
        refine z_is1 rfl rfl (pc' := 43) 28 rfl rfl ?_
        first | refine z_inc3N rfl rfl (pc' := 46) 29 rfl rfl ?_ | refine z_inc3 rfl rfl rfl (pc' := 46) 29 rfl rfl ?_
        refine z_goto 30 rfl (tgt := 16) rfl ?_
        refine l_Mo_leave1 hi hm hx hg j (w + 1) _ (by omega) ?_
        have e9 : lvA S mo pr g (j + 1) w a = lvA S mo pr g j (w + 1) (a + 0) := by
          show lvA S mo pr g j (w + 1) (a + if plB S mo pr g w = true then 1 else 0) = _
          rw [if_neg h33]
        rw [e9] at K
        exact K
      · refine z_iconst (v := nI 1) (by decide) (pc' := 37) 24 rfl rfl ?_
        refine z_goto 25 rfl (tgt := 41) rfl ?_
        first | refine z_iaddN (pc' := 42) 27 rfl rfl ?_ | refine z_iadd (pc' := 42) 27 rfl rfl ?_
        refine z_is1 rfl rfl (pc' := 43) 28 rfl rfl ?_
        first | refine z_inc3N rfl rfl (pc' := 46) 29 rfl rfl ?_ | refine z_inc3 rfl rfl rfl (pc' := 46) 29 rfl rfl ?_
        refine z_goto 30 rfl (tgt := 16) rfl ?_
        refine l_Mo_leave1 hi hm hx hg j (w + 1) _ (by omega) ?_
        have e9 : lvA S mo pr g (j + 1) w a = lvA S mo pr g j (w + 1) (a + 1) := by
          show lvA S mo pr g j (w + 1) (a + if plB S mo pr g w = true then 1 else 0) = _
          rw [if_pos h33]
        rw [e9] at K
        exact K
set_option maxHeartbeats 4000000 in
set_option maxRecDepth 100000 in
theorem l_Mo_leave2 {G : zG} {n u : Nat} {Φ : zP} {ν : Nat → va_E} {s : Nat → Int32} {S : Nat → Nat → Nat} {mo : Nat} {pr fa : Nat → Nat} {sc ch : Int32} {rc : Nat} {ρ : Nat → Int32} (hi : iS S) (hm : mo ≤ 16) (hx : iX S pr fa) : ∀ j g a, g + j = S 0 0 → (∀ v g', zW G 5 M_Mo_leave 55 [.ref 88, .int (nI (lvG S mo pr j g a)), .int g', v] [] n u (pm ν s (mk S mo pr fa sc ch rc ρ)) n u Φ) →
    zW G 5 M_Mo_leave 4 [.ref 88, .int (nI a), .int (nI g), .retAddr 0] [] n u (pm ν s (mk S mo pr fa sc ch rc ρ)) n u Φ
  | 0, g, a, e, K => by
    have hi0 := hi.1
    have hi1 := hi.2.1
    refine z_il2 (pc' := 5) 4 rfl rfl ?_
    refine z_al0 (pc' := 6) 5 rfl rfl ?_
    refine z_getf (pc' := 9) 6 rfl rfl f_Mo_9_12 (by first | exact pm_f | exact pm_1) (by rfl) ?_
    refine z_iconst (v := nI 3) (by decide) (pc' := 10) 7 rfl rfl ?_
    refine z_iald (pc' := 11) 8 rfl rfl (by first | exact pm_f | exact pm_1) (by omega) (by decide) ?_
    rw [mk_3]
    first | refine z_icmp_geN (pc' := 14) 9 rfl rfl (tgt := 55) rfl (by omega) (by omega) (fun h11 => ?_) (fun h11 => ?_) | refine z_icmp_ge (pc' := 14) 9 rfl rfl (tgt := 55) rfl (fun h11 => ?_) (fun h11 => ?_)
    · exact K _ _
    · exfalso; omega
  | j + 1, g, a, e, K => by
    have hi0 := hi.1
    have hi1 := hi.2.1
    refine z_il2 (pc' := 5) 4 rfl rfl ?_
    refine z_al0 (pc' := 6) 5 rfl rfl ?_
    refine z_getf (pc' := 9) 6 rfl rfl f_Mo_9_12 (by first | exact pm_f | exact pm_1) (by rfl) ?_
    refine z_iconst (v := nI 3) (by decide) (pc' := 10) 7 rfl rfl ?_
    refine z_iald (pc' := 11) 8 rfl rfl (by first | exact pm_f | exact pm_1) (by omega) (by decide) ?_
    rw [mk_3]
    first | refine z_icmp_geN (pc' := 14) 9 rfl rfl (tgt := 55) rfl (by omega) (by omega) (fun h11 => ?_) (fun h11 => ?_) | refine z_icmp_ge (pc' := 14) 9 rfl rfl (tgt := 55) rfl (fun h11 => ?_) (fun h11 => ?_)
    · exfalso; omega
    · refine z_iconst (v := nI 0) (by decide) (pc' := 15) 10 rfl rfl ?_
      refine z_is3 rfl rfl (pc' := 16) 11 rfl rfl ?_
      refine l_Mo_leave1 hi hm hx (by omega) (S 0 1) 0 _ (by omega) ?_
      first | refine z_inc2N rfl rfl (pc' := 52) 31 rfl rfl ?_ | refine z_inc2 rfl rfl rfl (pc' := 52) 31 rfl rfl ?_
      refine z_goto 32 rfl (tgt := 4) rfl ?_
      refine z_less3 ?_
      exact l_Mo_leave2 hi hm hx j (g + 1) _ (by omega) K
set_option maxHeartbeats 4000000 in
set_option maxRecDepth 100000 in
theorem c_Wb_leave {G : zG} {n u : Nat} {μ : Nat → va_E} {κ : zκ} {kp : Int32} {ac : Value} (h : cst μ κ) (hob : isOb μ kp ac) :
    zMet G 4 M_Wb_leave [.ref 4] n u μ n u (cK μ (f_leave κ)) := by
  obtain ⟨S, mo, pr, fa, sc, ch, rc, D⟩ := κ
  have hst := h
  obtain ⟨h1, ⟨cs, q, h2⟩, ⟨β, its, h3, h3a, h3b⟩, ⟨c23, h4⟩, h5⟩ := h
  have hk5 := h5
  obtain ⟨hi, hx, hmo, hrc⟩ := h5
  have hi0 := hi.1
  have hi1 := hi.2.1
  have hi2 := hi.2.2.1
  have hi3 := hi.2.2.2.2.1
  refine z_start (lv := [.ref 4, .retAddr 0, .retAddr 0, .retAddr 0]) K_Wb_leave rfl rfl (Nat.le_refl _) (Nat.le_refl _) (Nat.le_of_ble_eq_true rfl) rfl ?_
  unfold isOb at hob
  refine z_mu (pcc_id h1 h2).symm ?_
  have hob0 : isOb μ kp ac := hob
  have hm16 : mo ≤ 16 := by omega
  refine z_iconst (v := nI 0) (by decide) (pc' := 1) 0 rfl rfl ?_
  refine z_is1 rfl rfl (pc' := 2) 1 rfl rfl ?_
  refine z_iconst (v := nI 0) (by decide) (pc' := 3) 2 rfl rfl ?_
  refine z_is2 rfl rfl (pc' := 4) 3 rfl rfl ?_
  refine l_Wb_leave2 hob0 hi hm16 hx (S 0 0) 0 0 (by omega) (fun v1 g1 => ?_)
  refine z_il1 (pc' := 61) 32 rfl rfl ?_
  exact z_ireturn 33 rfl rfl (by first | rfl | exact zbo_nar) rfl rfl (by show cK μ _ _ _; rw [f_leave]; exact cK_of hst rfl rfl (hk5))
set_option maxHeartbeats 4000000 in
set_option maxRecDepth 100000 in
theorem c_Mo_leave {G : zG} {n u : Nat} {μ : Nat → va_E} {κ : zκ} {s : Nat → Int32} (h : mst μ s κ) :
    zMet G 5 M_Mo_leave [.ref 88] n u μ n u (mK μ s (f_leave κ)) := by
  obtain ⟨S, mo, pr, fa, sc, ch, rc, D⟩ := κ
  have hst := h
  obtain ⟨⟨ρ, h1, hD⟩, h2, ⟨q93, h93⟩, ⟨q91, h91⟩, ⟨q94, h94⟩, ⟨q95, h95⟩, ⟨q96, h96⟩, ⟨q97, h97⟩, h5⟩ := h
  have hk5 := h5
  obtain ⟨hi, hx, hmo, hrc⟩ := h5
  have hi0 := hi.1
  have hi1 := hi.2.1
  have hi2 := hi.2.2.1
  have hi3 := hi.2.2.2.2.1
  have hm16 : mo ≤ 16 := by omega
  refine z_start (lv := [.ref 88, .retAddr 0, .retAddr 0, .retAddr 0]) K_Mo_leave rfl rfl (Nat.le_refl _) (Nat.le_refl _) (Nat.le_of_ble_eq_true rfl) rfl ?_
  refine z_mu (show μ = pm (zu (zu μ 91 (.inl (0, 618, .inl q91))) 93 (.inl (1, 100, .inl q93))) s (mk S mo pr fa sc ch rc ρ) by rw [zu_id h91, zu_id h93, pm_id h2 h1]) ?_
  refine z_iconst (v := nI 0) (by decide) (pc' := 1) 0 rfl rfl ?_
  refine z_is1 rfl rfl (pc' := 2) 1 rfl rfl ?_
  refine z_iconst (v := nI 0) (by decide) (pc' := 3) 2 rfl rfl ?_
  refine z_is2 rfl rfl (pc' := 4) 3 rfl rfl ?_
  refine l_Mo_leave2 hi hm16 hx (S 0 0) 0 0 (by omega) (fun v1 g1 => ?_)
  refine z_il1 (pc' := 56) 33 rfl rfl ?_
  exact z_ireturn 34 rfl rfl (by first | rfl | exact zbo_nar) rfl rfl (by show mK μ s _ _ _; rw [f_leave]; exact mK_of3 hst (sEq_r) hD (hk5))
set_option maxHeartbeats 4000000 in
set_option maxRecDepth 100000 in
theorem l_Wb_first1 {G : zG} {n u : Nat} {Φ : zP} {ν : Nat → va_E} {S : Nat → Nat → Nat} {sc ch : Int32} {mo cs : Nat} {pr fa q : Nat → Nat} {kp : Int32} {ac : Value} (hob : isOb ν kp ac) (hi : iS S) (hm : mo ≤ 16) (hx : iX S pr fa) {g : Nat} (hg : g < S 0 0) {k0 : Int32} : ∀ j w, w + j = S 0 1 →
    (Φ (some (.int (fsW S mo pr g k0 j w))) (pcc ν S sc ch mo cs pr fa q)) → (Φ (some (.int k0)) (pcc ν S sc ch mo cs pr fa q) → zW G 4 M_Wb_first 51 [.ref 4, .int (nI g), .int (nI (S 0 1))] [] n u (pcc ν S sc ch mo cs pr fa q) n u Φ) →
    zW G 4 M_Wb_first 15 [.ref 4, .int (nI g), .int (nI w)] [] n u (pcc ν S sc ch mo cs pr fa q) n u Φ
  | 0, w, e, K, K2 => by
    have hi0 := hi.1
    have hi1 := hi.2.1
    have hob0 := hob
    unfold isOb at hob
    obtain rfl : w = S 0 1 := by omega
    refine z_il2 (pc' := 16) 9 rfl rfl ?_
    refine z_al0 (pc' := 17) 10 rfl rfl ?_
    refine z_getf (pc' := 20) 11 rfl rfl f_Wb_10_11 (by first | exact pcc_5 | exact pcc_6 | exact pcc_7 | exact pcc_8 | exact pcc_9 | exact pcc_10 | exact pcc_11 | exact pcc_12 | exact pcc_13 | exact pcc_14 | exact pcc_15 | exact pcc_22 | (rw [pcc_o (by decide)]; assumption)) (by rfl) ?_
    refine z_getf (pc' := 23) 12 rfl rfl f_Wb_110_3 (by first | exact pcc_5 | exact pcc_6 | exact pcc_7 | exact pcc_8 | exact pcc_9 | exact pcc_10 | exact pcc_11 | exact pcc_12 | exact pcc_13 | exact pcc_14 | exact pcc_15 | exact pcc_22 | (rw [pcc_o (by decide)]; assumption)) (by rfl) ?_
    first | refine z_icmp_geN (pc' := 26) 13 rfl rfl (tgt := 51) rfl (by omega) (by omega) (fun h23 => ?_) (fun h23 => ?_) | refine z_icmp_ge (pc' := 26) 13 rfl rfl (tgt := 51) rfl (fun h23 => ?_) (fun h23 => ?_)
    · exact K2 K
    · exfalso; omega
  | j + 1, w, e, K, K2 => by
    have hi0 := hi.1
    have hi1 := hi.2.1
    have hob0 := hob
    unfold isOb at hob
    refine z_il2 (pc' := 16) 9 rfl rfl ?_
    refine z_al0 (pc' := 17) 10 rfl rfl ?_
    refine z_getf (pc' := 20) 11 rfl rfl f_Wb_10_11 (by first | exact pcc_5 | exact pcc_6 | exact pcc_7 | exact pcc_8 | exact pcc_9 | exact pcc_10 | exact pcc_11 | exact pcc_12 | exact pcc_13 | exact pcc_14 | exact pcc_15 | exact pcc_22 | (rw [pcc_o (by decide)]; assumption)) (by rfl) ?_
    refine z_getf (pc' := 23) 12 rfl rfl f_Wb_110_3 (by first | exact pcc_5 | exact pcc_6 | exact pcc_7 | exact pcc_8 | exact pcc_9 | exact pcc_10 | exact pcc_11 | exact pcc_12 | exact pcc_13 | exact pcc_14 | exact pcc_15 | exact pcc_22 | (rw [pcc_o (by decide)]; assumption)) (by rfl) ?_
    first | refine z_icmp_geN (pc' := 26) 13 rfl rfl (tgt := 51) rfl (by omega) (by omega) (fun h23 => ?_) (fun h23 => ?_) | refine z_icmp_ge (pc' := 26) 13 rfl rfl (tgt := 51) rfl (fun h23 => ?_) (fun h23 => ?_)
    · exfalso; omega
    · refine z_al0 (pc' := 27) 14 rfl rfl ?_
      refine z_getf (pc' := 30) 15 rfl rfl f_Wb_10_11 (by first | exact pcc_5 | exact pcc_6 | exact pcc_7 | exact pcc_8 | exact pcc_9 | exact pcc_10 | exact pcc_11 | exact pcc_12 | exact pcc_13 | exact pcc_14 | exact pcc_15 | exact pcc_22 | (rw [pcc_o (by decide)]; assumption)) (by rfl) ?_
      refine z_il1 (pc' := 31) 16 rfl rfl ?_
      refine z_il2 (pc' := 32) 17 rfl rfl ?_
      refine z_callV1 (pc' := 35) 18 rfl rfl k_Wb_194 (by first | exact pcc_5 | exact pcc_6 | exact pcc_7 | exact pcc_8 | exact pcc_9 | exact pcc_10 | exact pcc_11 | exact pcc_12 | exact pcc_13 | exact pcc_14 | exact pcc_15 | exact pcc_22 | (rw [pcc_o (by decide)]; assumption)) (c_Co_pairLeaves hi hm hx hg (by omega)) (by decide) (Nat.le_refl _) (Nat.le_refl _) rfl rfl (Nat.le_of_ble_eq_true rfl) ?_
      first | refine z_if_eqB (pc' := 38) 19 rfl rfl (tgt := 45) rfl (fun h35 => ?_) (fun h35 => ?_) | refine z_if_eqN (pc' := 38) 19 rfl rfl (tgt := 45) rfl (by omega) (fun h35 => ?_) (fun h35 => ?_) | refine z_if_eq (pc' := 38) 19 rfl rfl (tgt := 45) rfl (fun h35 => ?_) (fun h35 => ?_)
      · first | refine z_inc2N rfl rfl (pc' := 48) 26 rfl rfl ?_ | refine z_inc2 rfl rfl rfl (pc' := 48) 26 rfl rfl ?_
        refine z_goto 27 rfl (tgt := 15) rfl ?_
        refine l_Wb_first1 hob0 hi hm hx hg j (w + 1) (by omega) ?_ K2
        have e9 : fsW S mo pr g k0 (j + 1) w = fsW S mo pr g k0 j (w + 1) := if_neg h35
        rw [e9] at K
        exact K
      · refine z_bipush (v := nI 10) (by decide) (pc' := 40) 20 rfl rfl ?_
        refine z_il1 (pc' := 41) 21 rfl rfl ?_
        first | refine z_imulN (pc' := 42) 22 rfl rfl ?_ | refine z_imul (pc' := 42) 22 rfl rfl ?_
        refine z_il2 (pc' := 43) 23 rfl rfl ?_
        first | refine z_iaddN (pc' := 44) 24 rfl rfl ?_ | refine z_iadd (pc' := 44) 24 rfl rfl ?_
        exact z_ireturn 25 rfl rfl (by first | rfl | exact zbo_nar) rfl rfl (by rw [show fsW S mo pr g k0 (j + 1) w = nI (10 * g + w) from if_pos h35] at K; exact K)
set_option maxHeartbeats 4000000 in
set_option maxRecDepth 100000 in
theorem l_Wb_first2 {G : zG} {n u : Nat} {Φ : zP} {ν : Nat → va_E} {S : Nat → Nat → Nat} {sc ch : Int32} {mo cs : Nat} {pr fa q : Nat → Nat} {kp : Int32} {ac : Value} (hob : isOb ν kp ac) (hi : iS S) (hm : mo ≤ 16) (hx : iX S pr fa) : ∀ j g, g + j = S 0 0 → (Φ (some (.int (fsG S mo pr j g))) (pcc ν S sc ch mo cs pr fa q)) →
    zW G 4 M_Wb_first 2 [.ref 4, .int (nI g), .retAddr 0] [] n u (pcc ν S sc ch mo cs pr fa q) n u Φ
  | 0, g, e, K => by
    have hi0 := hi.1
    have hi1 := hi.2.1
    have hob0 := hob
    unfold isOb at hob
    refine z_il1 (pc' := 3) 2 rfl rfl ?_
    refine z_al0 (pc' := 4) 3 rfl rfl ?_
    refine z_getf (pc' := 7) 4 rfl rfl f_Wb_10_11 (by first | exact pcc_5 | exact pcc_6 | exact pcc_7 | exact pcc_8 | exact pcc_9 | exact pcc_10 | exact pcc_11 | exact pcc_12 | exact pcc_13 | exact pcc_14 | exact pcc_15 | exact pcc_22 | (rw [pcc_o (by decide)]; assumption)) (by rfl) ?_
    refine z_getf (pc' := 10) 5 rfl rfl f_Wb_76_3 (by first | exact pcc_5 | exact pcc_6 | exact pcc_7 | exact pcc_8 | exact pcc_9 | exact pcc_10 | exact pcc_11 | exact pcc_12 | exact pcc_13 | exact pcc_14 | exact pcc_15 | exact pcc_22 | (rw [pcc_o (by decide)]; assumption)) (by rfl) ?_
    first | refine z_icmp_geN (pc' := 13) 6 rfl rfl (tgt := 57) rfl (by omega) (by omega) (fun h10 => ?_) (fun h10 => ?_) | refine z_icmp_ge (pc' := 13) 6 rfl rfl (tgt := 57) rfl (fun h10 => ?_) (fun h10 => ?_)
    · refine z_bipush (v := (-3)) (by decide) (pc' := 59) 30 rfl rfl ?_
      exact z_ireturn 31 rfl rfl (by first | rfl | exact zbo_nar) rfl rfl (by exact K)
    · exfalso; omega
  | j + 1, g, e, K => by
    have hi0 := hi.1
    have hi1 := hi.2.1
    have hob0 := hob
    unfold isOb at hob
    refine z_il1 (pc' := 3) 2 rfl rfl ?_
    refine z_al0 (pc' := 4) 3 rfl rfl ?_
    refine z_getf (pc' := 7) 4 rfl rfl f_Wb_10_11 (by first | exact pcc_5 | exact pcc_6 | exact pcc_7 | exact pcc_8 | exact pcc_9 | exact pcc_10 | exact pcc_11 | exact pcc_12 | exact pcc_13 | exact pcc_14 | exact pcc_15 | exact pcc_22 | (rw [pcc_o (by decide)]; assumption)) (by rfl) ?_
    refine z_getf (pc' := 10) 5 rfl rfl f_Wb_76_3 (by first | exact pcc_5 | exact pcc_6 | exact pcc_7 | exact pcc_8 | exact pcc_9 | exact pcc_10 | exact pcc_11 | exact pcc_12 | exact pcc_13 | exact pcc_14 | exact pcc_15 | exact pcc_22 | (rw [pcc_o (by decide)]; assumption)) (by rfl) ?_
    first | refine z_icmp_geN (pc' := 13) 6 rfl rfl (tgt := 57) rfl (by omega) (by omega) (fun h10 => ?_) (fun h10 => ?_) | refine z_icmp_ge (pc' := 13) 6 rfl rfl (tgt := 57) rfl (fun h10 => ?_) (fun h10 => ?_)
    · exfalso; omega
    · refine z_iconst (v := nI 0) (by decide) (pc' := 14) 7 rfl rfl ?_
      refine z_is2 rfl rfl (pc' := 15) 8 rfl rfl ?_
      refine l_Wb_first1 hob0 hi hm hx (by omega) (S 0 1) 0 (by omega) K (fun K2 => ?_)
      first | refine z_inc1N rfl rfl (pc' := 54) 28 rfl rfl ?_ | refine z_inc1 rfl rfl rfl (pc' := 54) 28 rfl rfl ?_
      refine z_goto 29 rfl (tgt := 2) rfl ?_
      refine z_less2 ?_
      exact l_Wb_first2 hob0 hi hm hx j (g + 1) (by omega) K2
set_option maxHeartbeats 4000000 in
set_option maxRecDepth 100000 in
theorem l_Mo_first1 {G : zG} {n u : Nat} {Φ : zP} {ν : Nat → va_E} {s : Nat → Int32} {S : Nat → Nat → Nat} {mo : Nat} {pr fa : Nat → Nat} {sc ch : Int32} {rc : Nat} {ρ : Nat → Int32} (hi : iS S) (hm : mo ≤ 16) (hx : iX S pr fa) {g : Nat} (hg : g < S 0 0) {k0 : Int32} : ∀ j w, w + j = S 0 1 →
    (Φ (some (.int (fsW S mo pr g k0 j w))) (pm ν s (mk S mo pr fa sc ch rc ρ))) → (Φ (some (.int k0)) (pm ν s (mk S mo pr fa sc ch rc ρ)) → zW G 5 M_Mo_first 46 [.ref 88, .int (nI g), .int (nI (S 0 1))] [] n u (pm ν s (mk S mo pr fa sc ch rc ρ)) n u Φ) →
    zW G 5 M_Mo_first 14 [.ref 88, .int (nI g), .int (nI w)] [] n u (pm ν s (mk S mo pr fa sc ch rc ρ)) n u Φ
  | 0, w, e, K, K2 => by
    have hi0 := hi.1
    have hi1 := hi.2.1
    obtain rfl : w = S 0 1 := by omega
    refine z_il2 (pc' := 15) 10 rfl rfl ?_
    refine z_al0 (pc' := 16) 11 rfl rfl ?_
    refine z_getf (pc' := 19) 12 rfl rfl f_Mo_9_12 (by first | exact pm_f | exact pm_1) (by rfl) ?_
    refine z_iconst (v := nI 2) (by decide) (pc' := 20) 13 rfl rfl ?_
    refine z_iald (pc' := 21) 14 rfl rfl (by first | exact pm_f | exact pm_1) (by omega) (by decide) ?_
    rw [mk_2]
    first | refine z_icmp_geN (pc' := 24) 15 rfl rfl (tgt := 46) rfl (by omega) (by omega) (fun h21 => ?_) (fun h21 => ?_) | refine z_icmp_ge (pc' := 24) 15 rfl rfl (tgt := 46) rfl (fun h21 => ?_) (fun h21 => ?_)
    · exact K2 K
    · exfalso; omega
  | j + 1, w, e, K, K2 => by
    have hi0 := hi.1
    have hi1 := hi.2.1
    refine z_il2 (pc' := 15) 10 rfl rfl ?_
    refine z_al0 (pc' := 16) 11 rfl rfl ?_
    refine z_getf (pc' := 19) 12 rfl rfl f_Mo_9_12 (by first | exact pm_f | exact pm_1) (by rfl) ?_
    refine z_iconst (v := nI 2) (by decide) (pc' := 20) 13 rfl rfl ?_
    refine z_iald (pc' := 21) 14 rfl rfl (by first | exact pm_f | exact pm_1) (by omega) (by decide) ?_
    rw [mk_2]
    first | refine z_icmp_geN (pc' := 24) 15 rfl rfl (tgt := 46) rfl (by omega) (by omega) (fun h21 => ?_) (fun h21 => ?_) | refine z_icmp_ge (pc' := 24) 15 rfl rfl (tgt := 46) rfl (fun h21 => ?_) (fun h21 => ?_)
    · exfalso; omega
    · refine z_al0 (pc' := 25) 16 rfl rfl ?_
      refine z_il1 (pc' := 26) 17 rfl rfl ?_
      refine z_il2 (pc' := 27) 18 rfl rfl ?_
      refine z_callV1 (pc' := 30) 19 rfl rfl k_Mo_242 (by first | exact pm_f | exact pm_1) (c_Mo_wouldLeave hi hm hx hg (by omega)) (by decide) (Nat.le_refl _) (Nat.le_refl _) rfl rfl (Nat.le_of_ble_eq_true rfl) ?_
      first | refine z_if_eqB (pc' := 33) 20 rfl rfl (tgt := 40) rfl (fun h30 => ?_) (fun h30 => ?_) | refine z_if_eqN (pc' := 33) 20 rfl rfl (tgt := 40) rfl (by omega) (fun h30 => ?_) (fun h30 => ?_) | refine z_if_eq (pc' := 33) 20 rfl rfl (tgt := 40) rfl (fun h30 => ?_) (fun h30 => ?_)
      · first | refine z_inc2N rfl rfl (pc' := 43) 27 rfl rfl ?_ | refine z_inc2 rfl rfl rfl (pc' := 43) 27 rfl rfl ?_
        refine z_goto 28 rfl (tgt := 14) rfl ?_
        refine l_Mo_first1 hi hm hx hg j (w + 1) (by omega) ?_ K2
        have e9 : fsW S mo pr g k0 (j + 1) w = fsW S mo pr g k0 j (w + 1) := if_neg h30
        rw [e9] at K
        exact K
      · refine z_bipush (v := nI 10) (by decide) (pc' := 35) 21 rfl rfl ?_
        refine z_il1 (pc' := 36) 22 rfl rfl ?_
        first | refine z_imulN (pc' := 37) 23 rfl rfl ?_ | refine z_imul (pc' := 37) 23 rfl rfl ?_
        refine z_il2 (pc' := 38) 24 rfl rfl ?_
        first | refine z_iaddN (pc' := 39) 25 rfl rfl ?_ | refine z_iadd (pc' := 39) 25 rfl rfl ?_
        exact z_ireturn 26 rfl rfl (by first | rfl | exact zbo_nar) rfl rfl (by rw [show fsW S mo pr g k0 (j + 1) w = nI (10 * g + w) from if_pos h30] at K; exact K)
set_option maxHeartbeats 4000000 in
set_option maxRecDepth 100000 in
theorem l_Mo_first2 {G : zG} {n u : Nat} {Φ : zP} {ν : Nat → va_E} {s : Nat → Int32} {S : Nat → Nat → Nat} {mo : Nat} {pr fa : Nat → Nat} {sc ch : Int32} {rc : Nat} {ρ : Nat → Int32} (hi : iS S) (hm : mo ≤ 16) (hx : iX S pr fa) : ∀ j g, g + j = S 0 0 → (Φ (some (.int (fsG S mo pr j g))) (pm ν s (mk S mo pr fa sc ch rc ρ))) →
    zW G 5 M_Mo_first 2 [.ref 88, .int (nI g), .retAddr 0] [] n u (pm ν s (mk S mo pr fa sc ch rc ρ)) n u Φ
  | 0, g, e, K => by
    have hi0 := hi.1
    have hi1 := hi.2.1
    refine z_il1 (pc' := 3) 2 rfl rfl ?_
    refine z_al0 (pc' := 4) 3 rfl rfl ?_
    refine z_getf (pc' := 7) 4 rfl rfl f_Mo_9_12 (by first | exact pm_f | exact pm_1) (by rfl) ?_
    refine z_iconst (v := nI 3) (by decide) (pc' := 8) 5 rfl rfl ?_
    refine z_iald (pc' := 9) 6 rfl rfl (by first | exact pm_f | exact pm_1) (by omega) (by decide) ?_
    rw [mk_3]
    first | refine z_icmp_geN (pc' := 12) 7 rfl rfl (tgt := 52) rfl (by omega) (by omega) (fun h9 => ?_) (fun h9 => ?_) | refine z_icmp_ge (pc' := 12) 7 rfl rfl (tgt := 52) rfl (fun h9 => ?_) (fun h9 => ?_)
    · refine z_bipush (v := (-3)) (by decide) (pc' := 54) 31 rfl rfl ?_
      exact z_ireturn 32 rfl rfl (by first | rfl | exact zbo_nar) rfl rfl (by exact K)
    · exfalso; omega
  | j + 1, g, e, K => by
    have hi0 := hi.1
    have hi1 := hi.2.1
    refine z_il1 (pc' := 3) 2 rfl rfl ?_
    refine z_al0 (pc' := 4) 3 rfl rfl ?_
    refine z_getf (pc' := 7) 4 rfl rfl f_Mo_9_12 (by first | exact pm_f | exact pm_1) (by rfl) ?_
    refine z_iconst (v := nI 3) (by decide) (pc' := 8) 5 rfl rfl ?_
    refine z_iald (pc' := 9) 6 rfl rfl (by first | exact pm_f | exact pm_1) (by omega) (by decide) ?_
    rw [mk_3]
    first | refine z_icmp_geN (pc' := 12) 7 rfl rfl (tgt := 52) rfl (by omega) (by omega) (fun h9 => ?_) (fun h9 => ?_) | refine z_icmp_ge (pc' := 12) 7 rfl rfl (tgt := 52) rfl (fun h9 => ?_) (fun h9 => ?_)
    · exfalso; omega
    · refine z_iconst (v := nI 0) (by decide) (pc' := 13) 8 rfl rfl ?_
      refine z_is2 rfl rfl (pc' := 14) 9 rfl rfl ?_
      refine l_Mo_first1 hi hm hx (by omega) (S 0 1) 0 (by omega) K (fun K2 => ?_)
      first | refine z_inc1N rfl rfl (pc' := 49) 29 rfl rfl ?_ | refine z_inc1 rfl rfl rfl (pc' := 49) 29 rfl rfl ?_
      refine z_goto 30 rfl (tgt := 2) rfl ?_
      refine z_less2 ?_
      exact l_Mo_first2 hi hm hx j (g + 1) (by omega) K2
set_option maxHeartbeats 4000000 in
set_option maxRecDepth 100000 in
theorem c_Wb_first {G : zG} {n u : Nat} {μ : Nat → va_E} {κ : zκ} {kp : Int32} {ac : Value} (h : cst μ κ) (hob : isOb μ kp ac) :
    zMet G 4 M_Wb_first [.ref 4] n u μ n u (cK μ (f_first κ)) := by
  obtain ⟨S, mo, pr, fa, sc, ch, rc, D⟩ := κ
  have hst := h
  obtain ⟨h1, ⟨cs, q, h2⟩, ⟨β, its, h3, h3a, h3b⟩, ⟨c23, h4⟩, h5⟩ := h
  have hk5 := h5
  obtain ⟨hi, hx, hmo, hrc⟩ := h5
  have hi0 := hi.1
  have hi1 := hi.2.1
  have hi2 := hi.2.2.1
  have hi3 := hi.2.2.2.2.1
  refine z_start (lv := [.ref 4, .retAddr 0, .retAddr 0]) K_Wb_first rfl rfl (Nat.le_refl _) (Nat.le_refl _) (Nat.le_of_ble_eq_true rfl) rfl ?_
  unfold isOb at hob
  refine z_mu (pcc_id h1 h2).symm ?_
  have hob0 : isOb μ kp ac := hob
  have hm16 : mo ≤ 16 := by omega
  refine z_iconst (v := nI 0) (by decide) (pc' := 1) 0 rfl rfl ?_
  refine z_is1 rfl rfl (pc' := 2) 1 rfl rfl ?_
  refine l_Wb_first2 hob0 hi hm16 hx (S 0 0) 0 (by omega) ?_
  show cK μ _ _ _; rw [f_first]; exact cK_of hst rfl rfl (hk5)
set_option maxHeartbeats 4000000 in
set_option maxRecDepth 100000 in
theorem c_Mo_first {G : zG} {n u : Nat} {μ : Nat → va_E} {κ : zκ} {s : Nat → Int32} (h : mst μ s κ) :
    zMet G 5 M_Mo_first [.ref 88] n u μ n u (mK μ s (f_first κ)) := by
  obtain ⟨S, mo, pr, fa, sc, ch, rc, D⟩ := κ
  have hst := h
  obtain ⟨⟨ρ, h1, hD⟩, h2, ⟨q93, h93⟩, ⟨q91, h91⟩, ⟨q94, h94⟩, ⟨q95, h95⟩, ⟨q96, h96⟩, ⟨q97, h97⟩, h5⟩ := h
  have hk5 := h5
  obtain ⟨hi, hx, hmo, hrc⟩ := h5
  have hi0 := hi.1
  have hi1 := hi.2.1
  have hi2 := hi.2.2.1
  have hi3 := hi.2.2.2.2.1
  have hm16 : mo ≤ 16 := by omega
  refine z_start (lv := [.ref 88, .retAddr 0, .retAddr 0]) K_Mo_first rfl rfl (Nat.le_refl _) (Nat.le_refl _) (Nat.le_of_ble_eq_true rfl) rfl ?_
  refine z_mu (show μ = pm (zu (zu μ 91 (.inl (0, 618, .inl q91))) 93 (.inl (1, 100, .inl q93))) s (mk S mo pr fa sc ch rc ρ) by rw [zu_id h91, zu_id h93, pm_id h2 h1]) ?_
  refine z_iconst (v := nI 0) (by decide) (pc' := 1) 0 rfl rfl ?_
  refine z_is1 rfl rfl (pc' := 2) 1 rfl rfl ?_
  refine l_Mo_first2 hi hm16 hx (S 0 0) 0 (by omega) ?_
  show mK μ s _ _ _; rw [f_first]; exact mK_of3 hst (sEq_r) hD (hk5)
