def sgC (tq m : Nat → Int32) (o k : Nat) : Nat → Int32 := fun i => if o ≤ i ∧ i < o + k then m (i - o) else tq i
theorem sgC_0 {tq m : Nat → Int32} {o : Nat} : sgC tq m o 0 = tq := funext fun i => if_neg (by omega)
theorem sgC_u {tq m : Nat → Int32} {o k : Nat} : upd (sgC tq m o k) (o + k) (m k) = sgC tq m o (k + 1) := by
  funext i
  by_cases h : i = o + k
  · subst h
    rw [upd_at]
    unfold sgC
    rw [if_pos (by omega), Nat.add_sub_cancel_left]
  · rw [upd_no h]
    unfold sgC
    by_cases h2 : o ≤ i ∧ i < o + k
    · rw [if_pos h2, if_pos (by omega)]
    · rw [if_neg h2, if_neg (by omega)]
theorem sgC_in {tq m : Nat → Int32} {o k j : Nat} (h : j < k) : sgC tq m o k (o + j) = m j := by
  unfold sgC
  rw [if_pos (by omega), Nat.add_sub_cancel_left]
theorem sgC_out {tq m : Nat → Int32} {o k i : Nat} (h : o + k ≤ i) : sgC tq m o k i = tq i := if_neg (by omega)
theorem pm_96 {ν : Nat → va_E} {s m q : Nat → Int32} {c e : va_E} : zu (pm (zu (zu ν 96 c) 93 (.inl (1, 100, .inl q))) s m) 96 e = pm (zu (zu ν 96 e) 93 (.inl (1, 100, .inl q))) s m := by
  unfold pm
  rw [zu_sw (a := 89) (b := 96) (by decide), zu_sw (a := 88) (b := 96) (by decide), zu_sw (a := 93) (b := 96) (by decide), zu_zu]
theorem cpN_0 {f g : Nat → Int32} : cpN f g 0 = g := funext fun j => if_neg (Nat.not_lt_zero j)
set_option maxHeartbeats 4000000 in
set_option maxRecDepth 100000 in
theorem l_Mo_gameA {G : zG} {n u : Nat} {Φ : zP} {ν : Nat → va_E} {s m tq q : Nat → Int32} {L d : Nat} (hL : L ≤ 3) {y : Int32} (K : zW G d M_Mo_gameOn 48 [.ref 88, .int (nI (L + 1)), .int y, .int (nI 618), .retAddr 0, .retAddr 0, .retAddr 0, .retAddr 0] [] n u (pm (zu (zu ν 96 (.inl (0, 2472, .inl (sgC tq m (618 * L) 618)))) 93 (.inl (1, 100, .inl q))) s m) n u Φ) : ∀ j k, k + j = 618 → zW G d M_Mo_gameOn 15 [.ref 88, .int (nI (L + 1)), .int y, .int (nI k), .retAddr 0, .retAddr 0, .retAddr 0, .retAddr 0] [] n u (pm (zu (zu ν 96 (.inl (0, 2472, .inl (sgC tq m (618 * L) k)))) 93 (.inl (1, 100, .inl q))) s m) n u Φ
  | 0, k, e => by
    obtain rfl : k = 618 := by omega
    refine z_il3 (pc' := 16) 9 rfl rfl ?_
    refine z_sipush (v := nI 618) (by decide) (pc' := 19) 10 rfl rfl ?_
    first | refine z_icmp_geN (pc' := 22) 11 rfl rfl (tgt := 48) rfl (by omega) (by omega) (fun h19 => ?_) (fun h19 => ?_) | refine z_icmp_ge (pc' := 22) 11 rfl rfl (tgt := 48) rfl (fun h19 => ?_) (fun h19 => ?_)
    · exact K
    · exfalso; omega
  | j + 1, k, e => by
    refine z_il3 (pc' := 16) 9 rfl rfl ?_
    refine z_sipush (v := nI 618) (by decide) (pc' := 19) 10 rfl rfl ?_
    first | refine z_icmp_geN (pc' := 22) 11 rfl rfl (tgt := 48) rfl (by omega) (by omega) (fun h19 => ?_) (fun h19 => ?_) | refine z_icmp_ge (pc' := 22) 11 rfl rfl (tgt := 48) rfl (fun h19 => ?_) (fun h19 => ?_)
    · exfalso; omega
    · refine z_al0 (pc' := 23) 12 rfl rfl ?_
      refine z_getf (pc' := 26) 13 rfl rfl f_Mo_32_12 (by first | exact pm_f | exact pm_1 | (rw [pm_o (by decide)]; first | exact zu_s | (rw [zu_n (by decide)]; first | exact zu_s | (rw [zu_n (by decide)]; first | exact zu_s | assumption)))) (by rfl) ?_
      refine z_sipush (v := nI 618) (by decide) (pc' := 29) 14 rfl rfl ?_
      refine z_il1 (pc' := 30) 15 rfl rfl ?_
      refine z_iconst (v := nI 1) (by decide) (pc' := 31) 16 rfl rfl ?_
      first | refine z_isubN (by omega) (pc' := 32) 17 rfl rfl ?_ | refine z_isub (pc' := 32) 17 rfl rfl ?_
      rw [Nat.add_sub_cancel]
      first | refine z_imulN (pc' := 33) 18 rfl rfl ?_ | refine z_imul (pc' := 33) 18 rfl rfl ?_
      refine z_il3 (pc' := 34) 19 rfl rfl ?_
      first | refine z_iaddN (pc' := 35) 20 rfl rfl ?_ | refine z_iadd (pc' := 35) 20 rfl rfl ?_
      refine z_al0 (pc' := 36) 21 rfl rfl ?_
      refine z_getf (pc' := 39) 22 rfl rfl f_Mo_9_12 (by first | exact pm_f | exact pm_1 | (rw [pm_o (by decide)]; first | exact zu_s | (rw [zu_n (by decide)]; first | exact zu_s | (rw [zu_n (by decide)]; first | exact zu_s | assumption)))) (by rfl) ?_
      refine z_il3 (pc' := 40) 23 rfl rfl ?_
      refine z_iald (pc' := 41) 24 rfl rfl (by first | exact pm_f | exact pm_1 | (rw [pm_o (by decide)]; first | exact zu_s | (rw [zu_n (by decide)]; first | exact zu_s | (rw [zu_n (by decide)]; first | exact zu_s | assumption)))) (by omega) (by decide) ?_
      refine z_iast (pc' := 42) 25 rfl rfl (by first | exact pm_f | exact pm_1 | (rw [pm_o (by decide)]; first | exact zu_s | (rw [zu_n (by decide)]; first | exact zu_s | (rw [zu_n (by decide)]; first | exact zu_s | assumption)))) (by omega) (by decide) ?_
      rw [sgC_u, pm_96]
      first | refine z_inc3N rfl rfl (pc' := 45) 26 rfl rfl ?_ | refine z_inc3 rfl rfl rfl (pc' := 45) 26 rfl rfl ?_
      refine z_goto 27 rfl (tgt := 15) rfl ?_
      exact l_Mo_gameA hL K j (k + 1) (by omega)
set_option maxHeartbeats 4000000 in
set_option maxRecDepth 100000 in
theorem l_Mo_gameC {G : zG} {n u : Nat} {Φ : zP} {ν : Nat → va_E} {s m0 g tq q : Nat → Int32} {L d : Nat} (hL : L ≤ 3) (ht : ∀ k, k < 618 → tq (618 * L + k) = m0 k) {y1 y2 y3 y4 y5 : Int32} (K : ∀ i', zW G d M_Mo_gameOn 138 [.ref 88, .int (nI (L + 1)), (.int y1), (.int y2), (.int y3), (.int y4), (.int y5), i'] [] n u (pm (zu (zu ν 96 (.inl (0, 2472, .inl tq))) 93 (.inl (1, 100, .inl q))) s m0) n u Φ) : ∀ j k, k + j = 618 → zW G d M_Mo_gameOn 102 [.ref 88, .int (nI (L + 1)), (.int y1), (.int y2), (.int y3), (.int y4), (.int y5), .int (nI k)] [] n u (pm (zu (zu ν 96 (.inl (0, 2472, .inl tq))) 93 (.inl (1, 100, .inl q))) s (cpN m0 g k)) n u Φ
  | 0, k, e => by
    obtain rfl : k = 618 := by omega
    refine z_il7 (pc' := 104) 61 rfl rfl ?_
    refine z_sipush (v := nI 618) (by decide) (pc' := 107) 62 rfl rfl ?_
    first | refine z_icmp_geN (pc' := 110) 63 rfl rfl (tgt := 138) rfl (by omega) (by omega) (fun h107 => ?_) (fun h107 => ?_) | refine z_icmp_ge (pc' := 110) 63 rfl rfl (tgt := 138) rfl (fun h107 => ?_) (fun h107 => ?_)
    · refine z_ext m0 pm_1 (fun j hj => if_pos hj) ?_
      rw [pm_s1]
      exact K _
    · exfalso; omega
  | j + 1, k, e => by
    refine z_il7 (pc' := 104) 61 rfl rfl ?_
    refine z_sipush (v := nI 618) (by decide) (pc' := 107) 62 rfl rfl ?_
    first | refine z_icmp_geN (pc' := 110) 63 rfl rfl (tgt := 138) rfl (by omega) (by omega) (fun h107 => ?_) (fun h107 => ?_) | refine z_icmp_ge (pc' := 110) 63 rfl rfl (tgt := 138) rfl (fun h107 => ?_) (fun h107 => ?_)
    · exfalso; omega
    · refine z_al0 (pc' := 111) 64 rfl rfl ?_
      refine z_getf (pc' := 114) 65 rfl rfl f_Mo_9_12 (by first | exact pm_f | exact pm_1 | (rw [pm_o (by decide)]; first | exact zu_s | (rw [zu_n (by decide)]; first | exact zu_s | (rw [zu_n (by decide)]; first | exact zu_s | assumption)))) (by rfl) ?_
      refine z_il7 (pc' := 116) 66 rfl rfl ?_
      refine z_al0 (pc' := 117) 67 rfl rfl ?_
      refine z_getf (pc' := 120) 68 rfl rfl f_Mo_32_12 (by first | exact pm_f | exact pm_1 | (rw [pm_o (by decide)]; first | exact zu_s | (rw [zu_n (by decide)]; first | exact zu_s | (rw [zu_n (by decide)]; first | exact zu_s | assumption)))) (by rfl) ?_
      refine z_sipush (v := nI 618) (by decide) (pc' := 123) 69 rfl rfl ?_
      refine z_il1 (pc' := 124) 70 rfl rfl ?_
      refine z_iconst (v := nI 1) (by decide) (pc' := 125) 71 rfl rfl ?_
      first | refine z_isubN (by omega) (pc' := 126) 72 rfl rfl ?_ | refine z_isub (pc' := 126) 72 rfl rfl ?_
      rw [Nat.add_sub_cancel]
      first | refine z_imulN (pc' := 127) 73 rfl rfl ?_ | refine z_imul (pc' := 127) 73 rfl rfl ?_
      refine z_il7 (pc' := 129) 74 rfl rfl ?_
      first | refine z_iaddN (pc' := 130) 75 rfl rfl ?_ | refine z_iadd (pc' := 130) 75 rfl rfl ?_
      refine z_iald (pc' := 131) 76 rfl rfl (by first | exact pm_f | exact pm_1 | (rw [pm_o (by decide)]; first | exact zu_s | (rw [zu_n (by decide)]; first | exact zu_s | (rw [zu_n (by decide)]; first | exact zu_s | assumption)))) (by omega) (by decide) ?_
      rw [ht k (by omega)]
      refine z_iast (pc' := 132) 77 rfl rfl (by first | exact pm_f | exact pm_1 | (rw [pm_o (by decide)]; first | exact zu_s | (rw [zu_n (by decide)]; first | exact zu_s | (rw [zu_n (by decide)]; first | exact zu_s | assumption)))) (by omega) (by decide) ?_
      rw [cpN_u, pm_s1]
      first | refine z_inc7N rfl rfl (pc' := 135) 78 rfl rfl ?_ | refine z_inc7 rfl rfl rfl (pc' := 135) 78 rfl rfl ?_
      refine z_goto 79 rfl (tgt := 102) rfl ?_
      exact l_Mo_gameC hL ht K j (k + 1) (by omega)
set_option maxHeartbeats 4000000 in
set_option maxRecDepth 100000 in
theorem l_Mo_gameOn {G : zG} {n u : Nat} {ν : Nat → va_E} {S : Nat → Nat → Nat} {ch : Int32} {rc : Nat} {ρ : Nat → Int32} {D : zD6} (hi : iS S) (hD : dzM ρ rc D) {L : Nat} (hL : L ≤ 3) (ihL : ∀ (b : Bool) (y : Int32) (mo : Nat) (pr fa : Nat → Nat) (sc : Int32) (s tq q : Nat → Int32), y = bI b → mo ≤ S 0 3 → iX S pr fa → zMet G (6 + L) M_Mo_gameOn [.ref 88, .int (nI L), .int y] n u (pm (zu (zu ν 96 (.inl (0, 2472, .inl tq))) 93 (.inl (1, 100, .inl q))) s (mk S mo pr fa sc ch rc ρ)) n u (fun r0 μ' => r0 = some (.int (nI (gv S D (min L (S 0 3 - mo)) b (mo, pr, fa)))) ∧ ∃ (tq' q' : Nat → Int32) (v : Int32), μ' = pm (zu (zu ν 96 (.inl (0, 2472, .inl tq'))) 93 (.inl (1, 100, .inl q'))) (un s 14 v) (mk S mo pr fa sc ch rc ρ) ∧ ∀ i, 618 * L ≤ i → tq' i = tq i)) {b : Bool} {mo r : Nat} {pr fa : Nat → Nat} {sc : Int32} {s tq0 tq1 : Nat → Int32} (hr : r = min L (S 0 3 - (mo + 1))) (hmo : mo < S 0 3) (hx : iX S pr fa) (ht0 : ∀ i, 618 * (L + 1) ≤ i → tq1 i = tq0 i) (ht1 : ∀ k, k < 618 → tq1 (618 * L + k) = (mk S mo pr fa sc ch rc ρ) k) : ∀ c d (tq q : Nat → Int32) v, d + c = S 0 0 + 1 → (∀ i, 618 * L ≤ i → tq i = tq1 i) →
    zW G (6 + (L + 1)) M_Mo_gameOn 61 [.ref 88, .int (nI (L + 1)), .int (bI b), .int (nI (bst b (gF S D r b (mo, pr, fa)) d).1), .int (nI (S 0 0)), .int (nI d), .retAddr 0, .retAddr 0] [] n u (pm (zu (zu ν 96 (.inl (0, 2472, .inl tq))) 93 (.inl (1, 100, .inl q))) (un s 14 v) (mk S mo pr fa sc ch rc ρ)) n u (fun r0 μ' => r0 = some (.int (nI (gv S D (min (L + 1) (S 0 3 - mo)) b (mo, pr, fa)))) ∧ ∃ (tq' q' : Nat → Int32) (v : Int32), μ' = pm (zu (zu ν 96 (.inl (0, 2472, .inl tq'))) 93 (.inl (1, 100, .inl q'))) (un s 14 v) (mk S mo pr fa sc ch rc ρ) ∧ ∀ i, 618 * (L + 1) ≤ i → tq' i = tq0 i)
  | 0, d, tq, q, v, e, hup => by
    have hi0 := hi.1
    have hi3 := hi.2.2.2.2.1
    refine z_il5 (pc' := 63) 37 rfl rfl ?_
    refine z_il4 (pc' := 65) 38 rfl rfl ?_
    first | refine z_icmp_gtN (pc' := 68) 39 rfl rfl (tgt := 187) rfl (by omega) (by omega) (fun h65 => ?_) (fun h65 => ?_) | refine z_icmp_gt (pc' := 68) 39 rfl rfl (tgt := 187) rfl (fun h65 => ?_) (fun h65 => ?_)
    · refine z_il3 (pc' := 188) 103 rfl rfl ?_
      exact z_ireturn 104 rfl rfl (by first | rfl | exact zbo_nar) rfl rfl (by have e9 : d = S 0 0 + 1 := (by omega); subst e9; refine ⟨?_, tq, q, v, rfl, fun i hi9 => (hup i (by omega)).trans (ht0 i hi9)⟩; rw [show min (L + 1) (S 0 3 - mo) = r + 1 by omega]; rfl)
    · exfalso; omega
  | c + 1, d, tq, q, v, e, hup => by
    have hi0 := hi.1
    have hi3 := hi.2.2.2.2.1
    have hwl := wor_le hi (D := D) (act := d) (t := (mo, pr, fa))
    have hb9 := bst_le (b := b) (gF_le hi (D := D) (r := r) (b := b) (t := (mo, pr, fa))) d
    have hg9 := gv_le hi (D := D) (min L (S 0 3 - (mo + 1))) (!b) (stp S D d (mo, pr, fa))
    have hF9 : (gF S D r b (mo, pr, fa)) d = wor S D d (mo, pr, fa) + gv S D (min L (S 0 3 - (mo + 1))) (!b) (stp S D d (mo, pr, fa)) := by
      show wor S D d (mo, pr, fa) + gv S D r (!b) (stp S D d (mo, pr, fa)) = _
      rw [hr]
    have hF8 := gF_le hi (D := D) (r := r) (b := b) (t := (mo, pr, fa)) d
    refine z_il5 (pc' := 63) 37 rfl rfl ?_
    refine z_il4 (pc' := 65) 38 rfl rfl ?_
    first | refine z_icmp_gtN (pc' := 68) 39 rfl rfl (tgt := 187) rfl (by omega) (by omega) (fun h65 => ?_) (fun h65 => ?_) | refine z_icmp_gt (pc' := 68) 39 rfl rfl (tgt := 187) rfl (fun h65 => ?_) (fun h65 => ?_)
    · exfalso; omega
    · refine z_al0 (pc' := 69) 40 rfl rfl ?_
      refine z_il5 (pc' := 71) 41 rfl rfl ?_
      refine z_iconst (v := nI 1) (by decide) (pc' := 72) 42 rfl rfl ?_
      refine z_isub (pc' := 73) 43 rfl rfl ?_
      refine z_callVX1 (pc' := 76) 44 rfl rfl k_Mo_227 (by first | exact pm_f | exact pm_1 | (rw [pm_o (by decide)]; first | exact zu_s | (rw [zu_n (by decide)]; first | exact zu_s | (rw [zu_n (by decide)]; first | exact zu_s | assumption)))) (c_Mo_goes (act := d) hi hD (by omega) (by omega) hx) (by omega) (Nat.le_refl _) (Nat.le_refl _) rfl rfl (Nat.le_of_ble_eq_true rfl) (fun q73 => ?_)
      refine z_is6 rfl rfl (pc' := 78) 45 rfl rfl ?_
      refine z_il6 (pc' := 80) 46 rfl rfl ?_
      refine z_al0 (pc' := 81) 47 rfl rfl ?_
      refine z_il1 (pc' := 82) 48 rfl rfl ?_
      refine z_iconst (v := nI 1) (by decide) (pc' := 83) 49 rfl rfl ?_
      first | refine z_isubN (by omega) (pc' := 84) 50 rfl rfl ?_ | refine z_isub (pc' := 84) 50 rfl rfl ?_
      rw [Nat.add_sub_cancel]
      refine z_il2 (pc' := 85) 51 rfl rfl ?_
      first | refine z_if_neB (pc' := 88) 52 rfl rfl (tgt := 92) rfl (fun h85 => ?_) (fun h85 => ?_) | refine z_if_neN (pc' := 88) 52 rfl rfl (tgt := 92) rfl (by omega) (fun h85 => ?_) (fun h85 => ?_) | refine z_if_ne (pc' := 88) 52 rfl rfl (tgt := 92) rfl (fun h85 => ?_) (fun h85 => ?_)
      · refine z_iconst (v := nI 0) (by decide) (pc' := 93) 55 rfl rfl ?_
        refine z_callV (pc' := 96) 56 rfl rfl k_Mo_290 (by first | exact pm_f | exact pm_1 | (rw [pm_o (by decide)]; first | exact zu_s | (rw [zu_n (by decide)]; first | exact zu_s | (rw [zu_n (by decide)]; first | exact zu_s | assumption)))) (ihL (!b) _ (mo + 1) _ _ _ _ _ _ (by rw [h85]; rfl) (by omega) (mon_ok hi hx)) (by omega) (Nat.le_refl _) (Nat.le_refl _) rfl rfl (Nat.le_of_ble_eq_true rfl) (fun r93 μ93 h93 => ?_)
        obtain ⟨y0, tq9, q9, v9, y1, htq⟩ := h93
        subst y0; subst y1
        rw [un_un]
        dsimp only [Option.toList_some, List.cons_append, List.nil_append]
        first | refine z_iaddN (pc' := 97) 57 rfl rfl ?_ | refine z_iadd (pc' := 97) 57 rfl rfl ?_
        refine z_te (show _ = nI ((gF S D r b (mo, pr, fa)) d) by rw [hF9]; rfl) ?_
        refine z_is6 rfl rfl (pc' := 99) 58 rfl rfl ?_
        refine z_iconst (v := nI 0) (by decide) (pc' := 100) 59 rfl rfl ?_
        refine z_is7 rfl rfl (pc' := 102) 60 rfl rfl ?_
        refine z_mu (congrArg (fun z => pm (zu (zu ν 96 (.inl (0, 2472, .inl tq9))) 93 (.inl (1, 100, .inl q9))) (un s 14 v9) z) (cpN_0 (f := mk S mo pr fa sc ch rc ρ)).symm) ?_
        refine l_Mo_gameC hL (fun k hk => by rw [htq _ (by omega), hup _ (by omega)]; exact ht1 k hk) (fun i9 => ?_) 618 0 (by decide)
        refine z_il5 (pc' := 140) 80 rfl rfl ?_
        first | refine z_if_eqB (pc' := 143) 81 rfl rfl (tgt := 162) rfl (fun h140 => ?_) (fun h140 => ?_) | refine z_if_eqN (pc' := 143) 81 rfl rfl (tgt := 162) rfl (by omega) (fun h140 => ?_) (fun h140 => ?_) | refine z_if_eq (pc' := 143) 81 rfl rfl (tgt := 162) rfl (fun h140 => ?_) (fun h140 => ?_)
        · refine z_iconst (v := nI 1) (by decide) (pc' := 163) 91 rfl rfl ?_
          refine z_goto 92 rfl (tgt := 167) rfl ?_
          refine z_is7 rfl rfl (pc' := 169) 94 rfl rfl ?_
          refine z_il7 (pc' := 171) 95 rfl rfl ?_
          refine z_if_eq_f (pc' := 174) 96 rfl rfl (tgt := 179) rfl (by decide) ?_
          refine z_il6 (pc' := 176) 97 rfl rfl ?_
          refine z_goto 98 rfl (tgt := 180) rfl ?_
          refine z_is3 rfl rfl (pc' := 181) 100 rfl rfl ?_
          first | refine z_inc5N rfl rfl (pc' := 184) 101 rfl rfl ?_ | refine z_inc5 rfl rfl rfl (pc' := 184) 101 rfl rfl ?_
          refine z_goto 102 rfl (tgt := 61) rfl ?_
          refine z_less6 (z_less7 ?_)
          have eb : bst b (gF S D r b (mo, pr, fa)) (d + 1) = ((gF S D r b (mo, pr, fa)) d, d) := bst_T (Or.inl h140)
          rw [show nI ((gF S D r b (mo, pr, fa)) d) = nI (bst b (gF S D r b (mo, pr, fa)) (d + 1)).1 by rw [eb]]
          exact l_Mo_gameOn hi hD hL ihL hr hmo hx ht0 ht1 c (d + 1) _ _ _ (by omega) (fun i hi9 => (htq i hi9).trans (hup i hi9))
        · refine z_il2 (pc' := 144) 82 rfl rfl ?_
          first | refine z_if_eqB (pc' := 147) 83 rfl rfl (tgt := 156) rfl (fun h144 => ?_) (fun h144 => ?_) | refine z_if_eqN (pc' := 147) 83 rfl rfl (tgt := 156) rfl (by omega) (fun h144 => ?_) (fun h144 => ?_) | refine z_if_eq (pc' := 147) 83 rfl rfl (tgt := 156) rfl (fun h144 => ?_) (fun h144 => ?_)
          · refine z_il6 (pc' := 158) 88 rfl rfl ?_
            refine z_il3 (pc' := 159) 89 rfl rfl ?_
            first | refine z_icmp_geN (pc' := 162) 90 rfl rfl (tgt := 166) rfl (by omega) (by omega) (fun h159 => ?_) (fun h159 => ?_) | refine z_icmp_ge (pc' := 162) 90 rfl rfl (tgt := 166) rfl (fun h159 => ?_) (fun h159 => ?_)
            · refine z_iconst (v := nI 0) (by decide) (pc' := 167) 93 rfl rfl ?_
              refine z_is7 rfl rfl (pc' := 169) 94 rfl rfl ?_
              refine z_il7 (pc' := 171) 95 rfl rfl ?_
              refine z_if_eq_t 96 rfl (tgt := 179) rfl rfl ?_
              refine z_il3 (pc' := 180) 99 rfl rfl ?_
              refine z_is3 rfl rfl (pc' := 181) 100 rfl rfl ?_
              first | refine z_inc5N rfl rfl (pc' := 184) 101 rfl rfl ?_ | refine z_inc5 rfl rfl rfl (pc' := 184) 101 rfl rfl ?_
              refine z_goto 102 rfl (tgt := 61) rfl ?_
              refine z_less6 (z_less7 ?_)
              have eb : bst b (gF S D r b (mo, pr, fa)) (d + 1) = bst b (gF S D r b (mo, pr, fa)) d := bst_F h140 (by rw [if_neg h144]; omega)
              rw [show nI (bst b (gF S D r b (mo, pr, fa)) d).1 = nI (bst b (gF S D r b (mo, pr, fa)) (d + 1)).1 by rw [eb]]
              exact l_Mo_gameOn hi hD hL ihL hr hmo hx ht0 ht1 c (d + 1) _ _ _ (by omega) (fun i hi9 => (htq i hi9).trans (hup i hi9))
            · refine z_iconst (v := nI 1) (by decide) (pc' := 163) 91 rfl rfl ?_
              refine z_goto 92 rfl (tgt := 167) rfl ?_
              refine z_is7 rfl rfl (pc' := 169) 94 rfl rfl ?_
              refine z_il7 (pc' := 171) 95 rfl rfl ?_
              refine z_if_eq_f (pc' := 174) 96 rfl rfl (tgt := 179) rfl (by decide) ?_
              refine z_il6 (pc' := 176) 97 rfl rfl ?_
              refine z_goto 98 rfl (tgt := 180) rfl ?_
              refine z_is3 rfl rfl (pc' := 181) 100 rfl rfl ?_
              first | refine z_inc5N rfl rfl (pc' := 184) 101 rfl rfl ?_ | refine z_inc5 rfl rfl rfl (pc' := 184) 101 rfl rfl ?_
              refine z_goto 102 rfl (tgt := 61) rfl ?_
              refine z_less6 (z_less7 ?_)
              have eb : bst b (gF S D r b (mo, pr, fa)) (d + 1) = ((gF S D r b (mo, pr, fa)) d, d) := bst_T (Or.inr (by rw [if_neg h144]; omega))
              rw [show nI ((gF S D r b (mo, pr, fa)) d) = nI (bst b (gF S D r b (mo, pr, fa)) (d + 1)).1 by rw [eb]]
              exact l_Mo_gameOn hi hD hL ihL hr hmo hx ht0 ht1 c (d + 1) _ _ _ (by omega) (fun i hi9 => (htq i hi9).trans (hup i hi9))
          · refine z_il6 (pc' := 149) 84 rfl rfl ?_
            refine z_il3 (pc' := 150) 85 rfl rfl ?_
            first | refine z_icmp_leN (pc' := 153) 86 rfl rfl (tgt := 166) rfl (by omega) (by omega) (fun h150 => ?_) (fun h150 => ?_) | refine z_icmp_le (pc' := 153) 86 rfl rfl (tgt := 166) rfl (fun h150 => ?_) (fun h150 => ?_)
            · refine z_iconst (v := nI 0) (by decide) (pc' := 167) 93 rfl rfl ?_
              refine z_is7 rfl rfl (pc' := 169) 94 rfl rfl ?_
              refine z_il7 (pc' := 171) 95 rfl rfl ?_
              refine z_if_eq_t 96 rfl (tgt := 179) rfl rfl ?_
              refine z_il3 (pc' := 180) 99 rfl rfl ?_
              refine z_is3 rfl rfl (pc' := 181) 100 rfl rfl ?_
              first | refine z_inc5N rfl rfl (pc' := 184) 101 rfl rfl ?_ | refine z_inc5 rfl rfl rfl (pc' := 184) 101 rfl rfl ?_
              refine z_goto 102 rfl (tgt := 61) rfl ?_
              refine z_less6 (z_less7 ?_)
              have eb : bst b (gF S D r b (mo, pr, fa)) (d + 1) = bst b (gF S D r b (mo, pr, fa)) d := bst_F h140 (by rw [if_pos h144]; omega)
              rw [show nI (bst b (gF S D r b (mo, pr, fa)) d).1 = nI (bst b (gF S D r b (mo, pr, fa)) (d + 1)).1 by rw [eb]]
              exact l_Mo_gameOn hi hD hL ihL hr hmo hx ht0 ht1 c (d + 1) _ _ _ (by omega) (fun i hi9 => (htq i hi9).trans (hup i hi9))
            · refine z_goto 87 rfl (tgt := 162) rfl ?_
              refine z_iconst (v := nI 1) (by decide) (pc' := 163) 91 rfl rfl ?_
              refine z_goto 92 rfl (tgt := 167) rfl ?_
              refine z_is7 rfl rfl (pc' := 169) 94 rfl rfl ?_
              refine z_il7 (pc' := 171) 95 rfl rfl ?_
              refine z_if_eq_f (pc' := 174) 96 rfl rfl (tgt := 179) rfl (by decide) ?_
              refine z_il6 (pc' := 176) 97 rfl rfl ?_
              refine z_goto 98 rfl (tgt := 180) rfl ?_
              refine z_is3 rfl rfl (pc' := 181) 100 rfl rfl ?_
              first | refine z_inc5N rfl rfl (pc' := 184) 101 rfl rfl ?_ | refine z_inc5 rfl rfl rfl (pc' := 184) 101 rfl rfl ?_
              refine z_goto 102 rfl (tgt := 61) rfl ?_
              refine z_less6 (z_less7 ?_)
              have eb : bst b (gF S D r b (mo, pr, fa)) (d + 1) = ((gF S D r b (mo, pr, fa)) d, d) := bst_T (Or.inr (by rw [if_pos h144]; omega))
              rw [show nI ((gF S D r b (mo, pr, fa)) d) = nI (bst b (gF S D r b (mo, pr, fa)) (d + 1)).1 by rw [eb]]
              exact l_Mo_gameOn hi hD hL ihL hr hmo hx ht0 ht1 c (d + 1) _ _ _ (by omega) (fun i hi9 => (htq i hi9).trans (hup i hi9))
      · refine z_iconst (v := nI 1) (by decide) (pc' := 89) 53 rfl rfl ?_
        refine z_goto 54 rfl (tgt := 93) rfl ?_
        refine z_callV (pc' := 96) 56 rfl rfl k_Mo_290 (by first | exact pm_f | exact pm_1 | (rw [pm_o (by decide)]; first | exact zu_s | (rw [zu_n (by decide)]; first | exact zu_s | (rw [zu_n (by decide)]; first | exact zu_s | assumption)))) (ihL (!b) _ (mo + 1) _ _ _ _ _ _ (by rw [eq_false_of_ne_true h85]; rfl) (by omega) (mon_ok hi hx)) (by omega) (Nat.le_refl _) (Nat.le_refl _) rfl rfl (Nat.le_of_ble_eq_true rfl) (fun r93 μ93 h93 => ?_)
        obtain ⟨y0, tq9, q9, v9, y1, htq⟩ := h93
        subst y0; subst y1
        rw [un_un]
        dsimp only [Option.toList_some, List.cons_append, List.nil_append]
        first | refine z_iaddN (pc' := 97) 57 rfl rfl ?_ | refine z_iadd (pc' := 97) 57 rfl rfl ?_
        refine z_te (show _ = nI ((gF S D r b (mo, pr, fa)) d) by rw [hF9]; rfl) ?_
        refine z_is6 rfl rfl (pc' := 99) 58 rfl rfl ?_
        refine z_iconst (v := nI 0) (by decide) (pc' := 100) 59 rfl rfl ?_
        refine z_is7 rfl rfl (pc' := 102) 60 rfl rfl ?_
        refine z_mu (congrArg (fun z => pm (zu (zu ν 96 (.inl (0, 2472, .inl tq9))) 93 (.inl (1, 100, .inl q9))) (un s 14 v9) z) (cpN_0 (f := mk S mo pr fa sc ch rc ρ)).symm) ?_
        refine l_Mo_gameC hL (fun k hk => by rw [htq _ (by omega), hup _ (by omega)]; exact ht1 k hk) (fun i9 => ?_) 618 0 (by decide)
        refine z_il5 (pc' := 140) 80 rfl rfl ?_
        first | refine z_if_eqB (pc' := 143) 81 rfl rfl (tgt := 162) rfl (fun h140 => ?_) (fun h140 => ?_) | refine z_if_eqN (pc' := 143) 81 rfl rfl (tgt := 162) rfl (by omega) (fun h140 => ?_) (fun h140 => ?_) | refine z_if_eq (pc' := 143) 81 rfl rfl (tgt := 162) rfl (fun h140 => ?_) (fun h140 => ?_)
        · refine z_iconst (v := nI 1) (by decide) (pc' := 163) 91 rfl rfl ?_
          refine z_goto 92 rfl (tgt := 167) rfl ?_
          refine z_is7 rfl rfl (pc' := 169) 94 rfl rfl ?_
          refine z_il7 (pc' := 171) 95 rfl rfl ?_
          refine z_if_eq_f (pc' := 174) 96 rfl rfl (tgt := 179) rfl (by decide) ?_
          refine z_il6 (pc' := 176) 97 rfl rfl ?_
          refine z_goto 98 rfl (tgt := 180) rfl ?_
          refine z_is3 rfl rfl (pc' := 181) 100 rfl rfl ?_
          first | refine z_inc5N rfl rfl (pc' := 184) 101 rfl rfl ?_ | refine z_inc5 rfl rfl rfl (pc' := 184) 101 rfl rfl ?_
          refine z_goto 102 rfl (tgt := 61) rfl ?_
          refine z_less6 (z_less7 ?_)
          have eb : bst b (gF S D r b (mo, pr, fa)) (d + 1) = ((gF S D r b (mo, pr, fa)) d, d) := bst_T (Or.inl h140)
          rw [show nI ((gF S D r b (mo, pr, fa)) d) = nI (bst b (gF S D r b (mo, pr, fa)) (d + 1)).1 by rw [eb]]
          exact l_Mo_gameOn hi hD hL ihL hr hmo hx ht0 ht1 c (d + 1) _ _ _ (by omega) (fun i hi9 => (htq i hi9).trans (hup i hi9))
        · refine z_il2 (pc' := 144) 82 rfl rfl ?_
          first | refine z_if_eqB (pc' := 147) 83 rfl rfl (tgt := 156) rfl (fun h144 => ?_) (fun h144 => ?_) | refine z_if_eqN (pc' := 147) 83 rfl rfl (tgt := 156) rfl (by omega) (fun h144 => ?_) (fun h144 => ?_) | refine z_if_eq (pc' := 147) 83 rfl rfl (tgt := 156) rfl (fun h144 => ?_) (fun h144 => ?_)
          · refine z_il6 (pc' := 158) 88 rfl rfl ?_
            refine z_il3 (pc' := 159) 89 rfl rfl ?_
            first | refine z_icmp_geN (pc' := 162) 90 rfl rfl (tgt := 166) rfl (by omega) (by omega) (fun h159 => ?_) (fun h159 => ?_) | refine z_icmp_ge (pc' := 162) 90 rfl rfl (tgt := 166) rfl (fun h159 => ?_) (fun h159 => ?_)
            · refine z_iconst (v := nI 0) (by decide) (pc' := 167) 93 rfl rfl ?_
              refine z_is7 rfl rfl (pc' := 169) 94 rfl rfl ?_
              refine z_il7 (pc' := 171) 95 rfl rfl ?_
              refine z_if_eq_t 96 rfl (tgt := 179) rfl rfl ?_
              refine z_il3 (pc' := 180) 99 rfl rfl ?_
              refine z_is3 rfl rfl (pc' := 181) 100 rfl rfl ?_
              first | refine z_inc5N rfl rfl (pc' := 184) 101 rfl rfl ?_ | refine z_inc5 rfl rfl rfl (pc' := 184) 101 rfl rfl ?_
              refine z_goto 102 rfl (tgt := 61) rfl ?_
              refine z_less6 (z_less7 ?_)
              have eb : bst b (gF S D r b (mo, pr, fa)) (d + 1) = bst b (gF S D r b (mo, pr, fa)) d := bst_F h140 (by rw [if_neg h144]; omega)
              rw [show nI (bst b (gF S D r b (mo, pr, fa)) d).1 = nI (bst b (gF S D r b (mo, pr, fa)) (d + 1)).1 by rw [eb]]
              exact l_Mo_gameOn hi hD hL ihL hr hmo hx ht0 ht1 c (d + 1) _ _ _ (by omega) (fun i hi9 => (htq i hi9).trans (hup i hi9))
            · refine z_iconst (v := nI 1) (by decide) (pc' := 163) 91 rfl rfl ?_
              refine z_goto 92 rfl (tgt := 167) rfl ?_
              refine z_is7 rfl rfl (pc' := 169) 94 rfl rfl ?_
              refine z_il7 (pc' := 171) 95 rfl rfl ?_
              refine z_if_eq_f (pc' := 174) 96 rfl rfl (tgt := 179) rfl (by decide) ?_
              refine z_il6 (pc' := 176) 97 rfl rfl ?_
              refine z_goto 98 rfl (tgt := 180) rfl ?_
              refine z_is3 rfl rfl (pc' := 181) 100 rfl rfl ?_
              first | refine z_inc5N rfl rfl (pc' := 184) 101 rfl rfl ?_ | refine z_inc5 rfl rfl rfl (pc' := 184) 101 rfl rfl ?_
              refine z_goto 102 rfl (tgt := 61) rfl ?_
              refine z_less6 (z_less7 ?_)
              have eb : bst b (gF S D r b (mo, pr, fa)) (d + 1) = ((gF S D r b (mo, pr, fa)) d, d) := bst_T (Or.inr (by rw [if_neg h144]; omega))
              rw [show nI ((gF S D r b (mo, pr, fa)) d) = nI (bst b (gF S D r b (mo, pr, fa)) (d + 1)).1 by rw [eb]]
              exact l_Mo_gameOn hi hD hL ihL hr hmo hx ht0 ht1 c (d + 1) _ _ _ (by omega) (fun i hi9 => (htq i hi9).trans (hup i hi9))
          · refine z_il6 (pc' := 149) 84 rfl rfl ?_
            refine z_il3 (pc' := 150) 85 rfl rfl ?_
            first | refine z_icmp_leN (pc' := 153) 86 rfl rfl (tgt := 166) rfl (by omega) (by omega) (fun h150 => ?_) (fun h150 => ?_) | refine z_icmp_le (pc' := 153) 86 rfl rfl (tgt := 166) rfl (fun h150 => ?_) (fun h150 => ?_)
            · refine z_iconst (v := nI 0) (by decide) (pc' := 167) 93 rfl rfl ?_
              refine z_is7 rfl rfl (pc' := 169) 94 rfl rfl ?_
              refine z_il7 (pc' := 171) 95 rfl rfl ?_
              refine z_if_eq_t 96 rfl (tgt := 179) rfl rfl ?_
              refine z_il3 (pc' := 180) 99 rfl rfl ?_
              refine z_is3 rfl rfl (pc' := 181) 100 rfl rfl ?_
              first | refine z_inc5N rfl rfl (pc' := 184) 101 rfl rfl ?_ | refine z_inc5 rfl rfl rfl (pc' := 184) 101 rfl rfl ?_
              refine z_goto 102 rfl (tgt := 61) rfl ?_
              refine z_less6 (z_less7 ?_)
              have eb : bst b (gF S D r b (mo, pr, fa)) (d + 1) = bst b (gF S D r b (mo, pr, fa)) d := bst_F h140 (by rw [if_pos h144]; omega)
              rw [show nI (bst b (gF S D r b (mo, pr, fa)) d).1 = nI (bst b (gF S D r b (mo, pr, fa)) (d + 1)).1 by rw [eb]]
              exact l_Mo_gameOn hi hD hL ihL hr hmo hx ht0 ht1 c (d + 1) _ _ _ (by omega) (fun i hi9 => (htq i hi9).trans (hup i hi9))
            · refine z_goto 87 rfl (tgt := 162) rfl ?_
              refine z_iconst (v := nI 1) (by decide) (pc' := 163) 91 rfl rfl ?_
              refine z_goto 92 rfl (tgt := 167) rfl ?_
              refine z_is7 rfl rfl (pc' := 169) 94 rfl rfl ?_
              refine z_il7 (pc' := 171) 95 rfl rfl ?_
              refine z_if_eq_f (pc' := 174) 96 rfl rfl (tgt := 179) rfl (by decide) ?_
              refine z_il6 (pc' := 176) 97 rfl rfl ?_
              refine z_goto 98 rfl (tgt := 180) rfl ?_
              refine z_is3 rfl rfl (pc' := 181) 100 rfl rfl ?_
              first | refine z_inc5N rfl rfl (pc' := 184) 101 rfl rfl ?_ | refine z_inc5 rfl rfl rfl (pc' := 184) 101 rfl rfl ?_
              refine z_goto 102 rfl (tgt := 61) rfl ?_
              refine z_less6 (z_less7 ?_)
              have eb : bst b (gF S D r b (mo, pr, fa)) (d + 1) = ((gF S D r b (mo, pr, fa)) d, d) := bst_T (Or.inr (by rw [if_pos h144]; omega))
              rw [show nI ((gF S D r b (mo, pr, fa)) d) = nI (bst b (gF S D r b (mo, pr, fa)) (d + 1)).1 by rw [eb]]
              exact l_Mo_gameOn hi hD hL ihL hr hmo hx ht0 ht1 c (d + 1) _ _ _ (by omega) (fun i hi9 => (htq i hi9).trans (hup i hi9))
set_option maxHeartbeats 4000000 in
set_option maxRecDepth 100000 in
theorem c_Mo_gameOn {G : zG} {n u : Nat} {ν : Nat → va_E} {S : Nat → Nat → Nat} {ch : Int32} {rc : Nat} {ρ : Nat → Int32} {D : zD6} (hi : iS S) (hD : dzM ρ rc D) : ∀ (L : Nat), L ≤ 4 → ∀ (b : Bool) (y : Int32) (mo : Nat) (pr fa : Nat → Nat) (sc : Int32) (s tq q : Nat → Int32), y = bI b → mo ≤ S 0 3 → iX S pr fa → zMet G (6 + L) M_Mo_gameOn [.ref 88, .int (nI L), .int y] n u (pm (zu (zu ν 96 (.inl (0, 2472, .inl tq))) 93 (.inl (1, 100, .inl q))) s (mk S mo pr fa sc ch rc ρ)) n u (fun r0 μ' => r0 = some (.int (nI (gv S D (min L (S 0 3 - mo)) b (mo, pr, fa)))) ∧ ∃ (tq' q' : Nat → Int32) (v : Int32), μ' = pm (zu (zu ν 96 (.inl (0, 2472, .inl tq'))) 93 (.inl (1, 100, .inl q'))) (un s 14 v) (mk S mo pr fa sc ch rc ρ) ∧ ∀ i, 618 * L ≤ i → tq' i = tq i)
  | 0, hL, b, y, mo, pr, fa, sc, s, tq, q, hy, hmo, hx => by
    refine z_start (lv := [.ref 88, .int (nI 0), .int y, .retAddr 0, .retAddr 0, .retAddr 0, .retAddr 0, .retAddr 0]) K_Mo_gameOn rfl rfl (Nat.le_refl _) (Nat.le_refl _) (Nat.le_of_ble_eq_true rfl) rfl ?_
    refine z_il1 (pc' := 1) 0 rfl rfl ?_
    refine z_if_eq_t 1 rfl (tgt := 11) rfl (show nI 0 = 0 from rfl) ?_
    refine z_iconst (v := nI 0) (by decide) (pc' := 12) 5 rfl rfl ?_
    exact z_ireturn 6 rfl rfl (by first | rfl | exact zbo_nar) rfl rfl (by exact ⟨by rw [Nat.zero_min]; rfl, tq, q, s 14, by rw [un_id], fun _ _ => rfl⟩)
  | L + 1, hL, b, y, mo, pr, fa, sc, s, tq, q, hy, hmo, hx => by
    subst hy
    have hi3 := hi.2.2.2.2.1
    refine z_start (lv := [.ref 88, .int (nI (L + 1)), .int (bI b), .retAddr 0, .retAddr 0, .retAddr 0, .retAddr 0, .retAddr 0]) K_Mo_gameOn rfl rfl (Nat.le_refl _) (Nat.le_refl _) (Nat.le_of_ble_eq_true rfl) rfl ?_
    refine z_il1 (pc' := 1) 0 rfl rfl ?_
    refine z_if_eq_f (pc' := 4) 1 rfl rfl (tgt := 11) rfl (nI_ne0 (by omega) (by omega)) ?_
    refine z_al0 (pc' := 5) 2 rfl rfl ?_
    refine z_callV1 (pc' := 8) 3 rfl rfl k_Mo_124 (by first | exact pm_f | exact pm_1 | (rw [pm_o (by decide)]; first | exact zu_s | (rw [zu_n (by decide)]; first | exact zu_s | (rw [zu_n (by decide)]; first | exact zu_s | assumption)))) (c_Mo_isOver hi (by omega)) (by omega) (Nat.le_refl _) (Nat.le_refl _) rfl rfl (Nat.le_of_ble_eq_true rfl) ?_
    first | refine z_if_eqB (pc' := 11) 4 rfl rfl (tgt := 13) rfl (fun h8 => ?_) (fun h8 => ?_) | refine z_if_eqN (pc' := 11) 4 rfl rfl (tgt := 13) rfl (by omega) (fun h8 => ?_) (fun h8 => ?_) | refine z_if_eq (pc' := 11) 4 rfl rfl (tgt := 13) rfl (fun h8 => ?_) (fun h8 => ?_)
    · refine z_iconst (v := nI 0) (by decide) (pc' := 14) 7 rfl rfl ?_
      refine z_is3 rfl rfl (pc' := 15) 8 rfl rfl ?_
      refine z_mu (show _ = pm (zu (zu ν 96 (.inl (0, 2472, .inl (sgC tq (mk S mo pr fa sc ch rc ρ) (618 * L) 0)))) 93 (.inl (1, 100, .inl q))) s (mk S mo pr fa sc ch rc ρ) by rw [sgC_0]) ?_
      refine l_Mo_gameA (by omega) ?_ 618 0 (by decide)
      refine z_iconst (v := nI 0) (by decide) (pc' := 49) 28 rfl rfl ?_
      refine z_is3 rfl rfl (pc' := 50) 29 rfl rfl ?_
      refine z_al0 (pc' := 51) 30 rfl rfl ?_
      refine z_getf (pc' := 54) 31 rfl rfl f_Mo_9_12 (by first | exact pm_f | exact pm_1 | (rw [pm_o (by decide)]; first | exact zu_s | (rw [zu_n (by decide)]; first | exact zu_s | (rw [zu_n (by decide)]; first | exact zu_s | assumption)))) (by rfl) ?_
      refine z_iconst (v := nI 3) (by decide) (pc' := 55) 32 rfl rfl ?_
      refine z_iald (pc' := 56) 33 rfl rfl (by first | exact pm_f | exact pm_1 | (rw [pm_o (by decide)]; first | exact zu_s | (rw [zu_n (by decide)]; first | exact zu_s | (rw [zu_n (by decide)]; first | exact zu_s | assumption)))) (by omega) (by decide) ?_
      rw [mk_3]
      refine z_is4 rfl rfl (pc' := 58) 34 rfl rfl ?_
      refine z_iconst (v := nI 0) (by decide) (pc' := 59) 35 rfl rfl ?_
      refine z_is5 rfl rfl (pc' := 61) 36 rfl rfl ?_
      refine z_mu (show _ = pm (zu (zu ν 96 (.inl (0, 2472, .inl (sgC tq (mk S mo pr fa sc ch rc ρ) (618 * L) 618)))) 93 (.inl (1, 100, .inl q))) (un s 14 (s 14)) (mk S mo pr fa sc ch rc ρ) by rw [un_id]) ?_
      exact l_Mo_gameOn hi hD (r := min L (S 0 3 - (mo + 1))) (tq1 := sgC tq (mk S mo pr fa sc ch rc ρ) (618 * L) 618) (by omega) (fun b y mo pr fa sc s tq q => c_Mo_gameOn hi hD L (by omega) b y mo pr fa sc s tq q) rfl (by omega) hx (fun i hi9 => sgC_out (by omega)) (fun k hk => sgC_in hk) (S 0 0 + 1) 0 _ _ _ (by omega) (fun _ _ => rfl)
    · refine z_iconst (v := nI 0) (by decide) (pc' := 12) 5 rfl rfl ?_
      exact z_ireturn 6 rfl rfl (by first | rfl | exact zbo_nar) rfl rfl (by exact ⟨by rw [show min (L + 1) (S 0 3 - mo) = 0 by omega]; rfl, tq, q, s 14, by rw [un_id], fun _ _ => rfl⟩)
theorem mK_any {μ μ' : Nat → va_E} {s s' : Nat → Int32} {S : Nat → Nat → Nat} {mo : Nat} {pr fa : Nat → Nat} {sc ch : Int32} {rc : Nat} {ρ : Nat → Int32} {D : zD6} {r : Int32} (hs : sEq s s') (h88 : μ' 88 = mob s') (h89 : μ' 89 = .inl (0, 618, .inl (mk S mo pr fa sc ch rc ρ))) (hd : dzM ρ rc D) (hk : iK (S, mo, pr, fa, sc, ch, rc, D)) {q3 q1 q4 q5 q6 q7 : Nat → Int32} (h93 : μ' 93 = .inl (1, 100, .inl q3)) (h91 : μ' 91 = .inl (0, 618, .inl q1)) (h94 : μ' 94 = .inl (0, 6, .inl q4)) (h95 : μ' 95 = .inl (0, 6, .inl q5)) (h96 : μ' 96 = .inl (0, 2472, .inl q6)) (h97 : μ' 97 = .inl (0, 618, .inl q7)) (hf : ∀ i, (i < 88 ∨ i = 90 ∨ i = 92 ∨ 97 < i) → μ' i = μ i) : mK μ s (r, (S, mo, pr, fa, sc, ch, rc, D)) (some (.int r)) μ' :=
  ⟨rfl, s', hs, ⟨⟨ρ, h89, hd⟩, h88, ⟨q3, h93⟩, ⟨q1, h91⟩, ⟨q4, h94⟩, ⟨q5, h95⟩, ⟨q6, h96⟩, ⟨q7, h97⟩, hk⟩, hf⟩
theorem pm_97 {ν : Nat → va_E} {s m q : Nat → Int32} {b c e : va_E} : zu (pm (zu (zu (zu ν 97 b) 96 c) 93 (.inl (1, 100, .inl q))) s m) 97 e = pm (zu (zu (zu ν 97 e) 96 c) 93 (.inl (1, 100, .inl q))) s m := by
  unfold pm
  rw [zu_sw (a := 89) (b := 97) (by decide), zu_sw (a := 88) (b := 97) (by decide), zu_sw (a := 93) (b := 97) (by decide), zu_sw (a := 96) (b := 97) (by decide), zu_zu]
set_option maxHeartbeats 4000000 in
set_option maxRecDepth 100000 in
theorem c_Mo_game {G : zG} {n u : Nat} {μ : Nat → va_E} {κ : zκ} {s : Nat → Int32} (h : mst μ s κ) (x : Int32) :
    zMet G 11 M_Mo_game [.ref 88, .int x] n u μ n u (mK μ s (f_game κ x, κ)) := by
  obtain ⟨S, mo, pr, fa, sc, ch, rc, D⟩ := κ
  have hst := h
  obtain ⟨⟨ρ, h1, hD⟩, h2, ⟨q93, h93⟩, ⟨q91, h91⟩, ⟨q94, h94⟩, ⟨q95, h95⟩, ⟨q96, h96⟩, ⟨q97, h97⟩, h5⟩ := h
  have hk5 := h5
  obtain ⟨hi, hx, hmo, hrc⟩ := h5
  have hi0 := hi.1
  have hi1 := hi.2.1
  have hi2 := hi.2.2.1
  have hi3 := hi.2.2.2.2.1
  have hm16 : mo ≤ 16 := by omega
  refine z_start (lv := [.ref 88, .int x]) K_Mo_game rfl rfl (Nat.le_refl _) (Nat.le_refl _) (Nat.le_of_ble_eq_true rfl) rfl ?_
  refine z_mu (show μ = pm (zu (zu (zu μ 97 (.inl (0, 618, .inl q97))) 96 (.inl (0, 2472, .inl q96))) 93 (.inl (1, 100, .inl q93))) s (mk S mo pr fa sc ch rc ρ) by rw [zu_id h97, zu_id h96, zu_id h93, pm_id h2 h1]) ?_
  refine z_il1 (pc' := 1) 0 rfl rfl ?_
  refine z_iconst (v := nI 1) (by decide) (pc' := 2) 1 rfl rfl ?_
  refine z_iconst (v := nI 4) (by decide) (pc' := 3) 2 rfl rfl ?_
  refine z_callS1 (pc' := 6) 3 rfl rfl k_Mo_67 (c_Mo_in _ _ _) (by omega) (Nat.le_refl _) (Nat.le_refl _) rfl rfl (Nat.le_of_ble_eq_true rfl) ?_
  first | refine z_if_eqB (pc' := 9) 4 rfl rfl (tgt := 18) rfl (fun h6 => ?_) (fun h6 => ?_) | refine z_if_eqN (pc' := 9) 4 rfl rfl (tgt := 18) rfl (by omega) (fun h6 => ?_) (fun h6 => ?_) | refine z_if_eq (pc' := 9) 4 rfl rfl (tgt := 18) rfl (fun h6 => ?_) (fun h6 => ?_)
  · refine z_iconst (v := (-1)) (by decide) (pc' := 19) 10 rfl rfl ?_
    exact z_ireturn 11 rfl rfl (by first | rfl | exact zbo_nar) rfl rfl (by show mK μ s _ _ _; rw [f_game, if_neg h6]; exact mK_any (sEq_r) pm_0 pm_1 hD hk5 (by first | exact pm_0 | exact pm_1 | (rw [pm_o (by decide)]; first | exact zu_s | (rw [zu_n (by decide)]; first | exact zu_s | (rw [zu_n (by decide)]; first | exact zu_s | (rw [zu_n (by decide)]; assumption))))) (by first | exact pm_0 | exact pm_1 | (rw [pm_o (by decide)]; first | exact zu_s | (rw [zu_n (by decide)]; first | exact zu_s | (rw [zu_n (by decide)]; first | exact zu_s | (rw [zu_n (by decide)]; assumption))))) (by first | exact pm_0 | exact pm_1 | (rw [pm_o (by decide)]; first | exact zu_s | (rw [zu_n (by decide)]; first | exact zu_s | (rw [zu_n (by decide)]; first | exact zu_s | (rw [zu_n (by decide)]; assumption))))) (by first | exact pm_0 | exact pm_1 | (rw [pm_o (by decide)]; first | exact zu_s | (rw [zu_n (by decide)]; first | exact zu_s | (rw [zu_n (by decide)]; first | exact zu_s | (rw [zu_n (by decide)]; assumption))))) (by first | exact pm_0 | exact pm_1 | (rw [pm_o (by decide)]; first | exact zu_s | (rw [zu_n (by decide)]; first | exact zu_s | (rw [zu_n (by decide)]; first | exact zu_s | (rw [zu_n (by decide)]; assumption))))) (by first | exact pm_0 | exact pm_1 | (rw [pm_o (by decide)]; first | exact zu_s | (rw [zu_n (by decide)]; first | exact zu_s | (rw [zu_n (by decide)]; first | exact zu_s | (rw [zu_n (by decide)]; assumption))))) (fun i hi9 => by rw [pm_o (by omega), zu_n (by omega), zu_n (by omega), zu_n (by omega)]))
  · obtain ⟨x1, hx1, hx2, rfl⟩ := z_wi h6 (by decide) (by decide)
    refine z_al0 (pc' := 10) 5 rfl rfl ?_
    refine z_il1 (pc' := 11) 6 rfl rfl ?_
    refine z_iconst (v := nI 1) (by decide) (pc' := 12) 7 rfl rfl ?_
    refine z_callV (pc' := 15) 8 rfl rfl k_Mo_290 (by first | exact pm_f | exact pm_1 | (rw [pm_o (by decide)]; first | exact zu_s | (rw [zu_n (by decide)]; first | exact zu_s | (rw [zu_n (by decide)]; first | exact zu_s | (rw [zu_n (by decide)]; assumption))))) (c_Mo_gameOn (D := D) hi hD x1 (by omega) true (nI 1) mo pr fa sc s q96 q93 rfl hmo hx) (by omega) (Nat.le_refl _) (Nat.le_refl _) rfl rfl (Nat.le_of_ble_eq_true rfl) (fun r12 μ12 h12 => ?_)
    obtain ⟨y0, tq9, q9, v9, y1, htq⟩ := h12
    subst y0; subst y1
    dsimp only [Option.toList_some, List.cons_append, List.nil_append]
    refine z_goto 9 rfl (tgt := 19) rfl ?_
    exact z_ireturn 11 rfl rfl (by first | rfl | exact zbo_nar) rfl rfl (by show mK μ s _ _ _; rw [f_game, if_pos h6, tN_n (by omega)]; exact mK_any (sEq14) pm_0 pm_1 hD hk5 (by first | exact pm_0 | exact pm_1 | (rw [pm_o (by decide)]; first | exact zu_s | (rw [zu_n (by decide)]; first | exact zu_s | (rw [zu_n (by decide)]; first | exact zu_s | (rw [zu_n (by decide)]; assumption))))) (by first | exact pm_0 | exact pm_1 | (rw [pm_o (by decide)]; first | exact zu_s | (rw [zu_n (by decide)]; first | exact zu_s | (rw [zu_n (by decide)]; first | exact zu_s | (rw [zu_n (by decide)]; assumption))))) (by first | exact pm_0 | exact pm_1 | (rw [pm_o (by decide)]; first | exact zu_s | (rw [zu_n (by decide)]; first | exact zu_s | (rw [zu_n (by decide)]; first | exact zu_s | (rw [zu_n (by decide)]; assumption))))) (by first | exact pm_0 | exact pm_1 | (rw [pm_o (by decide)]; first | exact zu_s | (rw [zu_n (by decide)]; first | exact zu_s | (rw [zu_n (by decide)]; first | exact zu_s | (rw [zu_n (by decide)]; assumption))))) (by first | exact pm_0 | exact pm_1 | (rw [pm_o (by decide)]; first | exact zu_s | (rw [zu_n (by decide)]; first | exact zu_s | (rw [zu_n (by decide)]; first | exact zu_s | (rw [zu_n (by decide)]; assumption))))) (by first | exact pm_0 | exact pm_1 | (rw [pm_o (by decide)]; first | exact zu_s | (rw [zu_n (by decide)]; first | exact zu_s | (rw [zu_n (by decide)]; first | exact zu_s | (rw [zu_n (by decide)]; assumption))))) (fun i hi9 => by rw [pm_o (by omega), zu_n (by omega), zu_n (by omega), zu_n (by omega)]))
set_option maxHeartbeats 4000000 in
set_option maxRecDepth 100000 in
theorem l_Mo_play {G : zG} {n u : Nat} {Φ : zP} {ν : Nat → va_E} {S : Nat → Nat → Nat} {ch : Int32} {rc : Nat} {ρ : Nat → Int32} {D : zD6} (hi : iS S) (hD : dzM ρ rc D) {N r op : Nat} (hN : N ≤ 3) {mo : Nat} {pr fa : Nat → Nat} {sc : Int32} {s : Nat → Int32} (hmo : mo < S 0 3) (hx : iX S pr fa) (hr : r = min N (S 0 3 - (mo + 1))) (ho : op ≤ S 0 0) (hlt : ∀ j, j < op → (gF S D r true (mo, pr, fa)) j < (gF S D r true (mo, pr, fa)) op) (KK : ∀ (ah tq q : Nat → Int32) v, Φ (some (.int (nI op))) (pm (zu (zu (zu ν 97 (.inl (0, 618, .inl ah))) 96 (.inl (0, 2472, .inl tq))) 93 (.inl (1, 100, .inl q))) (un s 14 v) (mk S mo pr fa sc ch rc ρ))) : ∀ c k (ah tq q : Nat → Int32) v, k + c = op →
    zW G 11 M_Mo_play 30 [.ref 88, .int (nI (N + 1)), .int (nI ((gF S D r true (mo, pr, fa)) op)), .int (nI k), .retAddr 0] [] n u (pm (zu (zu (zu ν 97 (.inl (0, 618, .inl ah))) 96 (.inl (0, 2472, .inl tq))) 93 (.inl (1, 100, .inl q))) (un s 14 v) (mk S mo pr fa sc ch rc ρ)) n u Φ
  | c, k, ah, tq, q, v, e => by
    have hi0 := hi.1
    have hi3 := hi.2.2.2.2.1
    have hw1 := gF_le hi (D := D) (r := r) (b := true) (t := (mo, pr, fa)) op
    have hw2 := gF_le hi (D := D) (r := r) (b := true) (t := (mo, pr, fa)) k
    have hFk : (gF S D r true (mo, pr, fa)) k = wor S D k (mo, pr, fa) + gv S D (min N (S 0 3 - (mo + 1))) false (stp S D k (mo, pr, fa)) := by
      show wor S D k (mo, pr, fa) + gv S D r (!true) (stp S D k (mo, pr, fa)) = _
      rw [hr]
      rfl
    refine z_il3 (pc' := 31) 19 rfl rfl ?_
    refine z_al0 (pc' := 32) 20 rfl rfl ?_
    refine z_getf (pc' := 35) 21 rfl rfl f_Mo_9_12 (by first | exact pm_f | exact pm_1 | (rw [pm_o (by decide)]; first | exact zu_s | (rw [zu_n (by decide)]; first | exact zu_s | (rw [zu_n (by decide)]; first | exact zu_s | (rw [zu_n (by decide)]; assumption))))) (by rfl) ?_
    refine z_iconst (v := nI 3) (by decide) (pc' := 36) 22 rfl rfl ?_
    refine z_iald (pc' := 37) 23 rfl rfl (by first | exact pm_f | exact pm_1 | (rw [pm_o (by decide)]; first | exact zu_s | (rw [zu_n (by decide)]; first | exact zu_s | (rw [zu_n (by decide)]; first | exact zu_s | (rw [zu_n (by decide)]; assumption))))) (by omega) (by decide) ?_
    rw [mk_3]
    first | refine z_icmp_gtN (pc' := 40) 24 rfl rfl (tgt := 98) rfl (by omega) (by omega) (fun h37 => ?_) (fun h37 => ?_) | refine z_icmp_gt (pc' := 40) 24 rfl rfl (tgt := 98) rfl (fun h37 => ?_) (fun h37 => ?_)
    · exfalso; omega
    · refine z_al0 (pc' := 41) 25 rfl rfl ?_
      refine z_getf (pc' := 44) 26 rfl rfl f_Mo_9_12 (by first | exact pm_f | exact pm_1 | (rw [pm_o (by decide)]; first | exact zu_s | (rw [zu_n (by decide)]; first | exact zu_s | (rw [zu_n (by decide)]; first | exact zu_s | (rw [zu_n (by decide)]; assumption))))) (by rfl) ?_
      refine z_al0 (pc' := 45) 27 rfl rfl ?_
      refine z_getf (pc' := 48) 28 rfl rfl f_Mo_35_12 (by first | exact pm_f | exact pm_1 | (rw [pm_o (by decide)]; first | exact zu_s | (rw [zu_n (by decide)]; first | exact zu_s | (rw [zu_n (by decide)]; first | exact zu_s | (rw [zu_n (by decide)]; assumption))))) (by rfl) ?_
      refine z_callS0 (pc' := 51) 29 rfl rfl k_Mo_63 (c_Mo_copyAll (g := ah) (by decide) pm_1 (by rw [pm_o (by decide), zu_n (by decide), zu_n (by decide)]; exact zu_s)) (by omega) (Nat.le_refl _) (Nat.le_refl _) rfl rfl (Nat.le_of_ble_eq_true rfl) ?_
      rw [pm_97]
      refine z_al0 (pc' := 52) 30 rfl rfl ?_
      refine z_il3 (pc' := 53) 31 rfl rfl ?_
      refine z_iconst (v := nI 1) (by decide) (pc' := 54) 32 rfl rfl ?_
      refine z_isub (pc' := 55) 33 rfl rfl ?_
      refine z_callVX1 (pc' := 58) 34 rfl rfl k_Mo_227 (by first | exact pm_f | exact pm_1 | (rw [pm_o (by decide)]; first | exact zu_s | (rw [zu_n (by decide)]; first | exact zu_s | (rw [zu_n (by decide)]; first | exact zu_s | (rw [zu_n (by decide)]; assumption))))) (c_Mo_goes (act := k) hi hD (by omega) (by omega) hx) (by omega) (Nat.le_refl _) (Nat.le_refl _) rfl rfl (Nat.le_of_ble_eq_true rfl) (fun q55 => ?_)
      refine z_is4 rfl rfl (pc' := 60) 35 rfl rfl ?_
      refine z_il4 (pc' := 62) 36 rfl rfl ?_
      refine z_al0 (pc' := 63) 37 rfl rfl ?_
      refine z_il1 (pc' := 64) 38 rfl rfl ?_
      refine z_iconst (v := nI 1) (by decide) (pc' := 65) 39 rfl rfl ?_
      first | refine z_isubN (by omega) (pc' := 66) 40 rfl rfl ?_ | refine z_isub (pc' := 66) 40 rfl rfl ?_
      rw [Nat.add_sub_cancel]
      refine z_iconst (v := nI 0) (by decide) (pc' := 67) 41 rfl rfl ?_
      refine z_callV (pc' := 70) 42 rfl rfl k_Mo_290 (by first | exact pm_f | exact pm_1 | (rw [pm_o (by decide)]; first | exact zu_s | (rw [zu_n (by decide)]; first | exact zu_s | (rw [zu_n (by decide)]; first | exact zu_s | (rw [zu_n (by decide)]; assumption))))) (c_Mo_gameOn (D := D) hi hD N (by omega) false (nI 0) (mo + 1) _ _ _ _ _ _ rfl (by omega) (mon_ok hi hx)) (by omega) (Nat.le_refl _) (Nat.le_refl _) rfl rfl (Nat.le_of_ble_eq_true rfl) (fun r67 μ67 h67 => ?_)
      obtain ⟨y0, tq9, q9, v9, y1, htq⟩ := h67
      subst y0; subst y1
      dsimp only [Option.toList_some, List.cons_append, List.nil_append]
      rw [un_un, un_un]
      first | refine z_iaddN (pc' := 71) 43 rfl rfl ?_ | refine z_iadd (pc' := 71) 43 rfl rfl ?_
      refine z_te (show _ = nI ((gF S D r true (mo, pr, fa)) k) by rw [hFk]; rfl) ?_
      refine z_is4 rfl rfl (pc' := 73) 44 rfl rfl ?_
      refine z_al0 (pc' := 74) 45 rfl rfl ?_
      refine z_getf (pc' := 77) 46 rfl rfl f_Mo_35_12 (by first | exact pm_f | exact pm_1 | (rw [pm_o (by decide)]; first | exact zu_s | (rw [zu_n (by decide)]; first | exact zu_s | (rw [zu_n (by decide)]; first | exact zu_s | (rw [zu_n (by decide)]; assumption))))) (by rfl) ?_
      refine z_al0 (pc' := 78) 47 rfl rfl ?_
      refine z_getf (pc' := 81) 48 rfl rfl f_Mo_9_12 (by first | exact pm_f | exact pm_1 | (rw [pm_o (by decide)]; first | exact zu_s | (rw [zu_n (by decide)]; first | exact zu_s | (rw [zu_n (by decide)]; first | exact zu_s | (rw [zu_n (by decide)]; assumption))))) (by rfl) ?_
      refine z_callS0 (pc' := 84) 49 rfl rfl k_Mo_63 (c_Mo_copyAll (f := mk S mo pr fa sc ch rc ρ) (by decide) (by rw [pm_o (by decide), zu_n (by decide), zu_n (by decide)]; exact zu_s) pm_1) (by omega) (Nat.le_refl _) (Nat.le_refl _) rfl rfl (Nat.le_of_ble_eq_true rfl) ?_
      rw [pm_s1]
      refine z_il4 (pc' := 86) 50 rfl rfl ?_
      refine z_il2 (pc' := 87) 51 rfl rfl ?_
      first | refine z_icmp_neN (pc' := 90) 52 rfl rfl (tgt := 92) rfl (by omega) (by omega) (fun h87 => ?_) (fun h87 => ?_) | refine z_icmp_ne (pc' := 90) 52 rfl rfl (tgt := 92) rfl (fun h87 => ?_) (fun h87 => ?_)
      · first | refine z_inc3N rfl rfl (pc' := 95) 55 rfl rfl ?_ | refine z_inc3 rfl rfl rfl (pc' := 95) 55 rfl rfl ?_
        refine z_goto 56 rfl (tgt := 30) rfl ?_
        refine z_less4 ?_
        cases c with
        | zero => exact absurd (show (gF S D r true (mo, pr, fa)) k = (gF S D r true (mo, pr, fa)) op by rw [show k = op by omega]) h87
        | succ c => exact l_Mo_play hi hD hN hmo hx hr ho hlt KK c (k + 1) _ _ _ _ (by omega)
      · refine z_il3 (pc' := 91) 53 rfl rfl ?_
        exact z_ireturn 54 rfl rfl (by first | rfl | exact zbo_nar) rfl rfl (by have e9 : k = op := Classical.byContradiction (fun z => by have := hlt k (by omega); omega); rw [e9]; exact KK _ _ _ _)
set_option maxHeartbeats 4000000 in
set_option maxRecDepth 100000 in
theorem c_Mo_play {G : zG} {n u : Nat} {μ : Nat → va_E} {κ : zκ} {s : Nat → Int32} (h : mst μ s κ) (x : Int32) :
    zMet G 11 M_Mo_play [.ref 88, .int x] n u μ n u (mK μ s (f_play κ x, κ)) := by
  obtain ⟨S, mo, pr, fa, sc, ch, rc, D⟩ := κ
  have hst := h
  obtain ⟨⟨ρ, h1, hD⟩, h2, ⟨q93, h93⟩, ⟨q91, h91⟩, ⟨q94, h94⟩, ⟨q95, h95⟩, ⟨q96, h96⟩, ⟨q97, h97⟩, h5⟩ := h
  have hk5 := h5
  obtain ⟨hi, hx, hmo, hrc⟩ := h5
  have hi0 := hi.1
  have hi1 := hi.2.1
  have hi2 := hi.2.2.1
  have hi3 := hi.2.2.2.2.1
  have hm16 : mo ≤ 16 := by omega
  refine z_start (lv := [.ref 88, .int x, .retAddr 0, .retAddr 0, .retAddr 0]) K_Mo_play rfl rfl (Nat.le_refl _) (Nat.le_refl _) (Nat.le_of_ble_eq_true rfl) rfl ?_
  refine z_mu (show μ = pm (zu (zu (zu μ 97 (.inl (0, 618, .inl q97))) 96 (.inl (0, 2472, .inl q96))) 93 (.inl (1, 100, .inl q93))) s (mk S mo pr fa sc ch rc ρ) by rw [zu_id h97, zu_id h96, zu_id h93, pm_id h2 h1]) ?_
  refine z_il1 (pc' := 1) 0 rfl rfl ?_
  refine z_iconst (v := nI 1) (by decide) (pc' := 2) 1 rfl rfl ?_
  refine z_iconst (v := nI 4) (by decide) (pc' := 3) 2 rfl rfl ?_
  refine z_callS1 (pc' := 6) 3 rfl rfl k_Mo_67 (c_Mo_in _ _ _) (by omega) (Nat.le_refl _) (Nat.le_refl _) rfl rfl (Nat.le_of_ble_eq_true rfl) ?_
  first | refine z_if_neB (pc' := 9) 4 rfl rfl (tgt := 11) rfl (fun h6 => ?_) (fun h6 => ?_) | refine z_if_neN (pc' := 9) 4 rfl rfl (tgt := 11) rfl (by omega) (fun h6 => ?_) (fun h6 => ?_) | refine z_if_ne (pc' := 9) 4 rfl rfl (tgt := 11) rfl (fun h6 => ?_) (fun h6 => ?_)
  · obtain ⟨x1, hx1, hx2, rfl⟩ := z_wi h6 (by decide) (by decide)
    obtain ⟨N, rfl⟩ : ∃ N, x1 = N + 1 := ⟨x1 - 1, by omega⟩
    refine z_al0 (pc' := 12) 7 rfl rfl ?_
    refine z_callV1 (pc' := 15) 8 rfl rfl k_Mo_124 (by first | exact pm_f | exact pm_1 | (rw [pm_o (by decide)]; first | exact zu_s | (rw [zu_n (by decide)]; first | exact zu_s | (rw [zu_n (by decide)]; first | exact zu_s | (rw [zu_n (by decide)]; assumption))))) (c_Mo_isOver hi hm16) (by omega) (Nat.le_refl _) (Nat.le_refl _) rfl rfl (Nat.le_of_ble_eq_true rfl) ?_
    first | refine z_if_eqB (pc' := 18) 9 rfl rfl (tgt := 21) rfl (fun h15 => ?_) (fun h15 => ?_) | refine z_if_eqN (pc' := 18) 9 rfl rfl (tgt := 21) rfl (by omega) (fun h15 => ?_) (fun h15 => ?_) | refine z_if_eq (pc' := 18) 9 rfl rfl (tgt := 21) rfl (fun h15 => ?_) (fun h15 => ?_)
    · refine z_al0 (pc' := 22) 12 rfl rfl ?_
      refine z_il1 (pc' := 23) 13 rfl rfl ?_
      refine z_iconst (v := nI 1) (by decide) (pc' := 24) 14 rfl rfl ?_
      refine z_callV (pc' := 27) 15 rfl rfl k_Mo_290 (by first | exact pm_f | exact pm_1 | (rw [pm_o (by decide)]; first | exact zu_s | (rw [zu_n (by decide)]; first | exact zu_s | (rw [zu_n (by decide)]; first | exact zu_s | (rw [zu_n (by decide)]; assumption))))) (c_Mo_gameOn (D := D) hi hD (N + 1) (by omega) true (nI 1) mo pr fa sc s q96 q93 rfl hmo hx) (by omega) (Nat.le_refl _) (Nat.le_refl _) rfl rfl (Nat.le_of_ble_eq_true rfl) (fun r24 μ24 h24 => ?_)
      obtain ⟨y0, tq9, q9, v9, y1, htq⟩ := h24
      subst y0; subst y1
      dsimp only [Option.toList_some, List.cons_append, List.nil_append]
      refine z_is2 rfl rfl (pc' := 28) 16 rfl rfl ?_
      refine z_iconst (v := nI 0) (by decide) (pc' := 29) 17 rfl rfl ?_
      refine z_is3 rfl rfl (pc' := 30) 18 rfl rfl ?_
      obtain ⟨b1, b2, b3⟩ := bst_first (F := gF S D (min N (S 0 3 - (mo + 1))) true (mo, pr, fa)) (S 0 0)
      have hg : gv S D (min (N + 1) (S 0 3 - mo)) true (mo, pr, fa) = gF S D (min N (S 0 3 - (mo + 1))) true (mo, pr, fa) (bst true (gF S D (min N (S 0 3 - (mo + 1))) true (mo, pr, fa)) (S 0 0 + 1)).2 := by
        rw [show min (N + 1) (S 0 3 - mo) = min N (S 0 3 - (mo + 1)) + 1 by omega, gv_s, b2]
      rw [hg]
      refine l_Mo_play hi hD (N := N) (r := min N (S 0 3 - (mo + 1))) (by omega) (by omega) hx rfl b1 (fun j hj => by rw [← b2]; exact b3 j hj) (fun ah tq q v => ?_) _ 0 _ _ _ _ (Nat.zero_add _)
      show mK μ s _ _ _; rw [f_play, if_pos h6, if_neg h15, tN_n (by omega), show min (N + 1) (S 0 3 - mo) - 1 = min N (S 0 3 - (mo + 1)) by omega]; exact mK_any (sEq14) pm_0 pm_1 hD hk5 (by first | exact pm_0 | exact pm_1 | (rw [pm_o (by decide)]; first | exact zu_s | (rw [zu_n (by decide)]; first | exact zu_s | (rw [zu_n (by decide)]; first | exact zu_s | (rw [zu_n (by decide)]; assumption))))) (by first | exact pm_0 | exact pm_1 | (rw [pm_o (by decide)]; first | exact zu_s | (rw [zu_n (by decide)]; first | exact zu_s | (rw [zu_n (by decide)]; first | exact zu_s | (rw [zu_n (by decide)]; assumption))))) (by first | exact pm_0 | exact pm_1 | (rw [pm_o (by decide)]; first | exact zu_s | (rw [zu_n (by decide)]; first | exact zu_s | (rw [zu_n (by decide)]; first | exact zu_s | (rw [zu_n (by decide)]; assumption))))) (by first | exact pm_0 | exact pm_1 | (rw [pm_o (by decide)]; first | exact zu_s | (rw [zu_n (by decide)]; first | exact zu_s | (rw [zu_n (by decide)]; first | exact zu_s | (rw [zu_n (by decide)]; assumption))))) (by first | exact pm_0 | exact pm_1 | (rw [pm_o (by decide)]; first | exact zu_s | (rw [zu_n (by decide)]; first | exact zu_s | (rw [zu_n (by decide)]; first | exact zu_s | (rw [zu_n (by decide)]; assumption))))) (by first | exact pm_0 | exact pm_1 | (rw [pm_o (by decide)]; first | exact zu_s | (rw [zu_n (by decide)]; first | exact zu_s | (rw [zu_n (by decide)]; first | exact zu_s | (rw [zu_n (by decide)]; assumption))))) (fun i hi9 => by rw [pm_o (by omega), zu_n (by omega), zu_n (by omega), zu_n (by omega)])
    · refine z_bipush (v := (-3)) (by decide) (pc' := 20) 10 rfl rfl ?_
      exact z_ireturn 11 rfl rfl (by first | rfl | exact zbo_nar) rfl rfl (by show mK μ s _ _ _; rw [f_play, if_pos h6, if_pos h15]; exact mK_any (sEq_r) pm_0 pm_1 hD hk5 (by first | exact pm_0 | exact pm_1 | (rw [pm_o (by decide)]; first | exact zu_s | (rw [zu_n (by decide)]; first | exact zu_s | (rw [zu_n (by decide)]; first | exact zu_s | (rw [zu_n (by decide)]; assumption))))) (by first | exact pm_0 | exact pm_1 | (rw [pm_o (by decide)]; first | exact zu_s | (rw [zu_n (by decide)]; first | exact zu_s | (rw [zu_n (by decide)]; first | exact zu_s | (rw [zu_n (by decide)]; assumption))))) (by first | exact pm_0 | exact pm_1 | (rw [pm_o (by decide)]; first | exact zu_s | (rw [zu_n (by decide)]; first | exact zu_s | (rw [zu_n (by decide)]; first | exact zu_s | (rw [zu_n (by decide)]; assumption))))) (by first | exact pm_0 | exact pm_1 | (rw [pm_o (by decide)]; first | exact zu_s | (rw [zu_n (by decide)]; first | exact zu_s | (rw [zu_n (by decide)]; first | exact zu_s | (rw [zu_n (by decide)]; assumption))))) (by first | exact pm_0 | exact pm_1 | (rw [pm_o (by decide)]; first | exact zu_s | (rw [zu_n (by decide)]; first | exact zu_s | (rw [zu_n (by decide)]; first | exact zu_s | (rw [zu_n (by decide)]; assumption))))) (by first | exact pm_0 | exact pm_1 | (rw [pm_o (by decide)]; first | exact zu_s | (rw [zu_n (by decide)]; first | exact zu_s | (rw [zu_n (by decide)]; first | exact zu_s | (rw [zu_n (by decide)]; assumption))))) (fun i hi9 => by rw [pm_o (by omega), zu_n (by omega), zu_n (by omega), zu_n (by omega)]))
  · refine z_iconst (v := (-1)) (by decide) (pc' := 10) 5 rfl rfl ?_
    exact z_ireturn 6 rfl rfl (by first | rfl | exact zbo_nar) rfl rfl (by show mK μ s _ _ _; rw [f_play, if_neg h6]; exact mK_any (sEq_r) pm_0 pm_1 hD hk5 (by first | exact pm_0 | exact pm_1 | (rw [pm_o (by decide)]; first | exact zu_s | (rw [zu_n (by decide)]; first | exact zu_s | (rw [zu_n (by decide)]; first | exact zu_s | (rw [zu_n (by decide)]; assumption))))) (by first | exact pm_0 | exact pm_1 | (rw [pm_o (by decide)]; first | exact zu_s | (rw [zu_n (by decide)]; first | exact zu_s | (rw [zu_n (by decide)]; first | exact zu_s | (rw [zu_n (by decide)]; assumption))))) (by first | exact pm_0 | exact pm_1 | (rw [pm_o (by decide)]; first | exact zu_s | (rw [zu_n (by decide)]; first | exact zu_s | (rw [zu_n (by decide)]; first | exact zu_s | (rw [zu_n (by decide)]; assumption))))) (by first | exact pm_0 | exact pm_1 | (rw [pm_o (by decide)]; first | exact zu_s | (rw [zu_n (by decide)]; first | exact zu_s | (rw [zu_n (by decide)]; first | exact zu_s | (rw [zu_n (by decide)]; assumption))))) (by first | exact pm_0 | exact pm_1 | (rw [pm_o (by decide)]; first | exact zu_s | (rw [zu_n (by decide)]; first | exact zu_s | (rw [zu_n (by decide)]; first | exact zu_s | (rw [zu_n (by decide)]; assumption))))) (by first | exact pm_0 | exact pm_1 | (rw [pm_o (by decide)]; first | exact zu_s | (rw [zu_n (by decide)]; first | exact zu_s | (rw [zu_n (by decide)]; first | exact zu_s | (rw [zu_n (by decide)]; assumption))))) (fun i hi9 => by rw [pm_o (by omega), zu_n (by omega), zu_n (by omega), zu_n (by omega)]))
