/-! ===== the reference's plans ===== -/
theorem zW_to {G : zG} {d : Nat} {M : zM} {pc : Nat} {lv st : List Value} {n u : Nat} {μ : Nat → va_E} {nF uF : Nat} {r : Option Value} {μ1 : Nat → va_E} {Ψ : zP} (k : zW G d M pc lv st n u μ nF uF (zE r μ1)) (h : Ψ r μ1) : zW G d M pc lv st n u μ nF uF Ψ := by
  intro p e R s m args below meth c n0 u0 B h1 h2 H locs ls hR hl hlv T hT X
  obtain ⟨t, ht, o, q1, q2, ⟨r2, μ2, q3, q4, q5⟩, q6⟩ := k p e R s m args below meth c n0 u0 B h1 h2 H locs ls hR hl hlv T hT X
  obtain ⟨q7, q8⟩ := q4
  subst q7; subst q8
  exact ⟨t, ht, o, q1, q2, ⟨_, _, q3, h, q5⟩, q6⟩
theorem zW_dm {G : zG} {d d' : Nat} {M : zM} {pc : Nat} {lv st : List Value} {n u : Nat} {μ : Nat → va_E} {nF uF : Nat} {Φ : zP} (h : d ≤ d') (k : zW G d M pc lv st n u μ nF uF Φ) : zW G d' M pc lv st n u μ nF uF Φ := by
  intro p e R s m args below meth c n0 u0 B
  obtain ⟨b1, b2, b3, b4, b5, b6, b7, b8, b9, b10, b11, b12, b13, b14, b15, b16, b17, b18, b19⟩ := B
  exact k p e R s m args below meth c n0 u0 ⟨b1, b2, b3, b4, b5, b6, b7, b8, b9, b10, b11, b12, b13, b14, b15, Nat.le_trans h b16, Nat.le_trans (Nat.mul_le_mul_left 32 h) b17, b18, b19⟩
theorem rnA_le {S : Nat → Nat → Nat} (hi : iS S) {D : zD6} : ∀ (r p a : Nat) (t : zT3), (rnA S D r p a t).1 ≤ a + 108 * r
  | 0, _, a, _ => Nat.le_refl _
  | r + 1, p, a, t => by
    have := rnA_le hi (D := D) r p (a + wor S D (dgt (S 0 0 + 1) r p) t) (stp S D (dgt (S 0 0 + 1) r p) t)
    have h := wor_le hi (D := D) (act := dgt (S 0 0 + 1) r p) (t := t)
    show (rnA S D r p (a + wor S D (dgt (S 0 0 + 1) r p) t) (stp S D (dgt (S 0 0 + 1) r p) t)).1 ≤ _
    omega
theorem rnA_ok {S : Nat → Nat → Nat} (hi : iS S) {D : zD6} : ∀ (r p a : Nat) (t : zT3), iX S t.2.1 t.2.2 → iX S (rnA S D r p a t).2.2.1 (rnA S D r p a t).2.2.2
  | 0, _, _, _, h => h
  | r + 1, p, a, t, h => rnA_ok hi r p _ _ (iX_stp hi h)
theorem sEq_t {s s1 s2 : Nat → Int32} (h : sEq s s1) (k : sEq s1 s2) : sEq s s2 := ⟨k.1.trans h.1, k.2.1.trans h.2.1, k.2.2.1.trans h.2.2.1, k.2.2.2.trans h.2.2.2⟩
theorem N4 {x r : Nat} (hx : x ≤ 6) (hr : r ≤ 4) : (x + 1) ^ r ≤ 2401 := Nat.le_trans (Nat.pow_le_pow_left (show x + 1 ≤ 7 by omega) r) (show 7 ^ r ≤ 7 ^ 4 from Nat.pow_le_pow_right (by decide) hr)
theorem z_less3' {G : zG} {d : Nat} {M : zM} {pc : Nat} {a0 a1 a2 w : Value} {lv0 st : List Value} {n u : Nat} {μ : Nat → va_E} {nF uF : Nat} {Φ : zP} (kk : zW G d M pc (a0 :: a1 :: a2 :: .retAddr 0 :: lv0) st n u μ nF uF Φ) : zW G d M pc (a0 :: a1 :: a2 :: w :: lv0) st n u μ nF uF Φ := z_less3 kk
set_option maxHeartbeats 4000000 in
set_option maxRecDepth 100000 in
theorem c_Mo_monthsOf {G : zG} {n u : Nat} {ν : Nat → va_E} {s : Nat → Int32} {S : Nat → Nat → Nat} {mo : Nat} {pr fa : Nat → Nat} {sc ch : Int32} {rc : Nat} {ρ : Nat → Int32} (hi : iS S) (hm : mo ≤ S 0 3) {N : Nat} (hN : N ≤ 16) : zMet G 0 M_Mo_monthsOf [.ref 88, .int (nI N)] n u (pm ν s (mk S mo pr fa sc ch rc ρ)) n u (zE (some (.int (nI (min N (S 0 3 - mo))))) (pm ν s (mk S mo pr fa sc ch rc ρ))) := by
  have hi3 := hi.2.2.2.2.1
  refine z_start (lv := [.ref 88, .int (nI N), .retAddr 0]) K_Mo_monthsOf rfl rfl (Nat.le_refl _) (Nat.le_refl _) (Nat.le_of_ble_eq_true rfl) rfl ?_
  refine z_al0 (pc' := 1) 0 rfl rfl ?_
  refine z_getf (pc' := 4) 1 rfl rfl f_Mo_9_12 (by first | exact pm_f | exact pm_1 | (rw [pm_o (by decide)]; assumption)) (by rfl) ?_
  refine z_iconst (v := nI 0) (by decide) (pc' := 5) 2 rfl rfl ?_
  refine z_iald (pc' := 6) 3 rfl rfl (by first | exact pm_f | exact pm_1 | (rw [pm_o (by decide)]; assumption)) (by omega) (by decide) ?_
  rw [mk_0]
  refine z_al0 (pc' := 7) 4 rfl rfl ?_
  refine z_getf (pc' := 10) 5 rfl rfl f_Mo_9_12 (by first | exact pm_f | exact pm_1 | (rw [pm_o (by decide)]; assumption)) (by rfl) ?_
  refine z_iconst (v := nI 1) (by decide) (pc' := 11) 6 rfl rfl ?_
  refine z_iald (pc' := 12) 7 rfl rfl (by first | exact pm_f | exact pm_1 | (rw [pm_o (by decide)]; assumption)) (by omega) (by decide) ?_
  rw [mk_1]
  first | refine z_isubN (by omega) (pc' := 13) 8 rfl rfl ?_ | refine z_isub (pc' := 13) 8 rfl rfl ?_
  refine z_is2 rfl rfl (pc' := 14) 9 rfl rfl ?_
  refine z_il2 (pc' := 15) 10 rfl rfl ?_
  refine z_il1 (pc' := 16) 11 rfl rfl ?_
  first | refine z_icmp_geN (pc' := 19) 12 rfl rfl (tgt := 23) rfl (by omega) (by omega) (fun h16 => ?_) (fun h16 => ?_) | refine z_icmp_ge (pc' := 19) 12 rfl rfl (tgt := 23) rfl (fun h16 => ?_) (fun h16 => ?_)
  · refine z_il1 (pc' := 24) 15 rfl rfl ?_
    exact z_ireturn 16 rfl rfl (by first | rfl | exact zbo_nar) rfl rfl (by exact ⟨by rw [show min N (S 0 3 - mo) = N by omega], rfl⟩)
  · refine z_il2 (pc' := 20) 13 rfl rfl ?_
    refine z_goto 14 rfl (tgt := 24) rfl ?_
    exact z_ireturn 16 rfl rfl (by first | rfl | exact zbo_nar) rfl rfl (by exact ⟨by rw [show min N (S 0 3 - mo) = S 0 3 - mo by omega], rfl⟩)
set_option maxHeartbeats 4000000 in
set_option maxRecDepth 100000 in
theorem l_Mo_plansOf {G : zG} {n u : Nat} {ν : Nat → va_E} {s : Nat → Int32} {S : Nat → Nat → Nat} {mo : Nat} {pr fa : Nat → Nat} {sc ch : Int32} {rc : Nat} {ρ : Nat → Int32} (hi : iS S) (hm : mo ≤ S 0 3) {N : Nat} (hN : N ≤ 4) : ∀ j k, k + j = min N (S 0 3 - mo) → zW G 1 M_Mo_plansOf 4 [.ref 88, .int (nI N), .int (nI ((S 0 0 + 1) ^ k)), .int (nI k)] [] n u (pm ν s (mk S mo pr fa sc ch rc ρ)) n u (zE (some (.int (nI ((S 0 0 + 1) ^ (min N (S 0 3 - mo)))))) (pm ν s (mk S mo pr fa sc ch rc ρ)))
  | 0, k, e => by
    have hi3 := hi.2.2.2.2.1
    refine z_il3 (pc' := 5) 4 rfl rfl ?_
    refine z_al0 (pc' := 6) 5 rfl rfl ?_
    refine z_il1 (pc' := 7) 6 rfl rfl ?_
    refine z_callV1 (pc' := 10) 7 rfl rfl k_Mo_254 (by first | exact pm_f | exact pm_1 | (rw [pm_o (by decide)]; assumption)) (c_Mo_monthsOf hi hm (by omega)) (by decide) (Nat.le_refl _) (Nat.le_refl _) rfl rfl (Nat.le_of_ble_eq_true rfl) ?_
    first | refine z_icmp_geN (pc' := 13) 8 rfl rfl (tgt := 30) rfl (by omega) (by omega) (fun h10 => ?_) (fun h10 => ?_) | refine z_icmp_ge (pc' := 13) 8 rfl rfl (tgt := 30) rfl (fun h10 => ?_) (fun h10 => ?_)
    · refine z_il2 (pc' := 31) 20 rfl rfl ?_
      exact z_ireturn 21 rfl rfl (by first | rfl | exact zbo_nar) rfl rfl (by exact ⟨by rw [show min N (S 0 3 - mo) = k by omega], rfl⟩)
    · exfalso; omega
  | j + 1, k, e => by
    have hi3 := hi.2.2.2.2.1
    refine z_il3 (pc' := 5) 4 rfl rfl ?_
    refine z_al0 (pc' := 6) 5 rfl rfl ?_
    refine z_il1 (pc' := 7) 6 rfl rfl ?_
    refine z_callV1 (pc' := 10) 7 rfl rfl k_Mo_254 (by first | exact pm_f | exact pm_1 | (rw [pm_o (by decide)]; assumption)) (c_Mo_monthsOf hi hm (by omega)) (by decide) (Nat.le_refl _) (Nat.le_refl _) rfl rfl (Nat.le_of_ble_eq_true rfl) ?_
    first | refine z_icmp_geN (pc' := 13) 8 rfl rfl (tgt := 30) rfl (by omega) (by omega) (fun h10 => ?_) (fun h10 => ?_) | refine z_icmp_ge (pc' := 13) 8 rfl rfl (tgt := 30) rfl (fun h10 => ?_) (fun h10 => ?_)
    · exfalso; omega
    · refine z_il2 (pc' := 14) 9 rfl rfl ?_
      refine z_al0 (pc' := 15) 10 rfl rfl ?_
      refine z_getf (pc' := 18) 11 rfl rfl f_Mo_9_12 (by first | exact pm_f | exact pm_1 | (rw [pm_o (by decide)]; assumption)) (by rfl) ?_
      refine z_iconst (v := nI 3) (by decide) (pc' := 19) 12 rfl rfl ?_
      refine z_iald (pc' := 20) 13 rfl rfl (by first | exact pm_f | exact pm_1 | (rw [pm_o (by decide)]; assumption)) (by omega) (by decide) ?_
      rw [mk_3]
      refine z_iconst (v := nI 1) (by decide) (pc' := 21) 14 rfl rfl ?_
      first | refine z_iaddN (pc' := 22) 15 rfl rfl ?_ | refine z_iadd (pc' := 22) 15 rfl rfl ?_
      first | refine z_imulN (pc' := 23) 16 rfl rfl ?_ | refine z_imul (pc' := 23) 16 rfl rfl ?_
      rw [← Nat.pow_succ]
      refine z_is2 rfl rfl (pc' := 24) 17 rfl rfl ?_
      first | refine z_inc3N rfl rfl (pc' := 27) 18 rfl rfl ?_ | refine z_inc3 rfl rfl rfl (pc' := 27) 18 rfl rfl ?_
      refine z_goto 19 rfl (tgt := 4) rfl ?_
      exact l_Mo_plansOf hi hm hN j (k + 1) (by omega)
set_option maxHeartbeats 4000000 in
set_option maxRecDepth 100000 in
theorem c_Mo_plansOf {G : zG} {n u : Nat} {ν : Nat → va_E} {s : Nat → Int32} {S : Nat → Nat → Nat} {mo : Nat} {pr fa : Nat → Nat} {sc ch : Int32} {rc : Nat} {ρ : Nat → Int32} (hi : iS S) (hm : mo ≤ S 0 3) {N : Nat} (hN : N ≤ 4) : zMet G 1 M_Mo_plansOf [.ref 88, .int (nI N)] n u (pm ν s (mk S mo pr fa sc ch rc ρ)) n u (zE (some (.int (nI ((S 0 0 + 1) ^ (min N (S 0 3 - mo)))))) (pm ν s (mk S mo pr fa sc ch rc ρ))) := by
  refine z_start (lv := [.ref 88, .int (nI N), .retAddr 0, .retAddr 0]) K_Mo_plansOf rfl rfl (Nat.le_refl _) (Nat.le_refl _) (Nat.le_of_ble_eq_true rfl) rfl ?_
  refine z_iconst (v := nI 1) (by decide) (pc' := 1) 0 rfl rfl ?_
  refine z_is2 rfl rfl (pc' := 2) 1 rfl rfl ?_
  refine z_iconst (v := nI 0) (by decide) (pc' := 3) 2 rfl rfl ?_
  refine z_is3 rfl rfl (pc' := 4) 3 rfl rfl ?_
  exact l_Mo_plansOf hi hm hN _ 0 (Nat.zero_add _)
set_option maxHeartbeats 4000000 in
set_option maxRecDepth 100000 in
theorem l_Mo_digit {G : zG} {n u : Nat} {μ : Nat → va_E} {P N pl K : Nat} (hN : 0 < N) (hN2 : N < 2 ^ 31) (hK : K ≤ 16) : ∀ j k v, k + j = K → v < 2 ^ 31 → zW G 0 M_Mo_digit 8 [.int (nI P), .int (nI N), .int (nI pl), .int (nI K), .int (nI v), .int (nI k)] [] n u μ n u (zE (some (.int (nI (dgt N j v)))) μ)
  | 0, k, v, e, hv => by
    have hn0 : ¬ nI N = 0 := nI_ne0 hN hN2
    refine z_il5 (pc' := 10) 6 rfl rfl ?_
    refine z_il3 (pc' := 11) 7 rfl rfl ?_
    first | refine z_icmp_geN (pc' := 14) 8 rfl rfl (tgt := 26) rfl (by omega) (by omega) (fun h11 => ?_) (fun h11 => ?_) | refine z_icmp_ge (pc' := 14) 8 rfl rfl (tgt := 26) rfl (fun h11 => ?_) (fun h11 => ?_)
    · refine z_il4 (pc' := 28) 15 rfl rfl ?_
      refine z_il1 (pc' := 29) 16 rfl rfl ?_
      refine z_irem (by exact hn0) (pc' := 30) 17 rfl rfl ?_
      rw [pk_rem hv hN hN2]
      exact z_ireturn 18 rfl rfl (by first | rfl | exact zbo_nar) rfl rfl (by exact ⟨by unfold dgt; rw [Nat.pow_zero, Nat.div_one], rfl⟩)
    · exfalso; omega
  | j + 1, k, v, e, hv => by
    have hn0 : ¬ nI N = 0 := nI_ne0 hN hN2
    refine z_il5 (pc' := 10) 6 rfl rfl ?_
    refine z_il3 (pc' := 11) 7 rfl rfl ?_
    first | refine z_icmp_geN (pc' := 14) 8 rfl rfl (tgt := 26) rfl (by omega) (by omega) (fun h11 => ?_) (fun h11 => ?_) | refine z_icmp_ge (pc' := 14) 8 rfl rfl (tgt := 26) rfl (fun h11 => ?_) (fun h11 => ?_)
    · exfalso; omega
    · refine z_il4 (pc' := 16) 9 rfl rfl ?_
      refine z_il1 (pc' := 17) 10 rfl rfl ?_
      refine z_idiv (by exact hn0) (pc' := 18) 11 rfl rfl ?_
      rw [pk_div hv hN hN2]
      refine z_is4 rfl rfl (pc' := 20) 12 rfl rfl ?_
      first | refine z_inc5N rfl rfl (pc' := 23) 13 rfl rfl ?_ | refine z_inc5 rfl rfl rfl (pc' := 23) 13 rfl rfl ?_
      refine z_goto 14 rfl (tgt := 8) rfl ?_
      have e9 := l_Mo_digit (G := G) (n := n) (u := u) (μ := μ) (P := P) (pl := pl) hN hN2 hK j (k + 1) (v / N) (by omega) (Nat.lt_of_le_of_lt (Nat.div_le_self _ _) hv)
      rw [show dgt N j (v / N) = dgt N (j + 1) v by unfold dgt; rw [Nat.div_div_eq_div_mul, Nat.pow_succ, Nat.mul_comm]] at e9
      exact e9
set_option maxHeartbeats 4000000 in
set_option maxRecDepth 100000 in
theorem c_Mo_digit {G : zG} {n u : Nat} {μ : Nat → va_E} {P N k K : Nat} (hN : 0 < N) (hN2 : N < 2 ^ 31) (hK : K ≤ 16) (hP : P < 2 ^ 31) (hk : k < K) : zMet G 0 M_Mo_digit [.int (nI P), .int (nI N), .int (nI k), .int (nI K)] n u μ n u (zE (some (.int (nI (dgt N (K - 1 - k) P)))) μ) := by
  refine z_start (lv := [.int (nI P), .int (nI N), .int (nI k), .int (nI K), .retAddr 0, .retAddr 0]) K_Mo_digit rfl rfl (Nat.le_refl _) (Nat.le_refl _) (Nat.le_of_ble_eq_true rfl) rfl ?_
  refine z_il0 (pc' := 1) 0 rfl rfl ?_
  refine z_is4 rfl rfl (pc' := 3) 1 rfl rfl ?_
  refine z_il2 (pc' := 4) 2 rfl rfl ?_
  refine z_iconst (v := nI 1) (by decide) (pc' := 5) 3 rfl rfl ?_
  first | refine z_iaddN (pc' := 6) 4 rfl rfl ?_ | refine z_iadd (pc' := 6) 4 rfl rfl ?_
  refine z_is5 rfl rfl (pc' := 8) 5 rfl rfl ?_
  exact l_Mo_digit hN hN2 hK _ (k + 1) P (by omega) hP
set_option maxHeartbeats 4000000 in
set_option maxRecDepth 100000 in
theorem l_Mo_worthOf {G : zG} {n u : Nat} {Φ : zP} {ν : Nat → va_E} {s : Nat → Int32} {S : Nat → Nat → Nat} {ch : Int32} {rc : Nat} {ρ w : Nat → Int32} {D : zD6} (hi : iS S) (hD : dzM ρ rc D) {P K : Nat} (hP : P < 2 ^ 31) (hK : K ≤ 4) : ∀ r k mo pr fa sc (q : Nat → Int32) v acc, k + r = K → mo + r ≤ 16 → iX S pr fa →
    (∀ mo' sc' (q' : Nat → Int32) v' i', zW G 6 M_Mo_worthOf 46 [.ref 88, .int (nI P), .int (nI K), .int (nI (S 0 0 + 1)), .int (nI (rnA S D r P acc (mo, pr, fa)).1), i'] [] n u (pm (zu (zu ν 91 (.inl (0, 618, .inl w))) 93 (.inl (1, 100, .inl q'))) (un s 14 v') (mk S mo' (rnA S D r P acc (mo, pr, fa)).2.2.1 (rnA S D r P acc (mo, pr, fa)).2.2.2 sc' ch rc ρ)) n u Φ) →
    zW G 6 M_Mo_worthOf 15 [.ref 88, .int (nI P), .int (nI K), .int (nI (S 0 0 + 1)), .int (nI acc), .int (nI k)] [] n u (pm (zu (zu ν 91 (.inl (0, 618, .inl w))) 93 (.inl (1, 100, .inl q))) (un s 14 v) (mk S mo pr fa sc ch rc ρ)) n u Φ
  | 0, k, mo, pr, fa, sc, q, v, acc, e, hm, hx, Kk => by
    have hi0 := hi.1
    refine z_il5 (pc' := 17) 11 rfl rfl ?_
    refine z_il2 (pc' := 18) 12 rfl rfl ?_
    first | refine z_icmp_geN (pc' := 21) 13 rfl rfl (tgt := 46) rfl (by omega) (by omega) (fun h18 => ?_) (fun h18 => ?_) | refine z_icmp_ge (pc' := 21) 13 rfl rfl (tgt := 46) rfl (fun h18 => ?_) (fun h18 => ?_)
    · exact Kk _ _ _ _ _
    · exfalso; omega
  | r + 1, k, mo, pr, fa, sc, q, v, acc, e, hm, hx, Kk => by
    have hi0 := hi.1
    have hd := dgt_lt (N := S 0 0 + 1) (r := r) (p := P) (by omega)
    refine z_il5 (pc' := 17) 11 rfl rfl ?_
    refine z_il2 (pc' := 18) 12 rfl rfl ?_
    first | refine z_icmp_geN (pc' := 21) 13 rfl rfl (tgt := 46) rfl (by omega) (by omega) (fun h18 => ?_) (fun h18 => ?_) | refine z_icmp_ge (pc' := 21) 13 rfl rfl (tgt := 46) rfl (fun h18 => ?_) (fun h18 => ?_)
    · exfalso; omega
    · refine z_il4 (pc' := 23) 14 rfl rfl ?_
      refine z_al0 (pc' := 24) 15 rfl rfl ?_
      refine z_il1 (pc' := 25) 16 rfl rfl ?_
      refine z_il3 (pc' := 26) 17 rfl rfl ?_
      refine z_il5 (pc' := 28) 18 rfl rfl ?_
      refine z_il2 (pc' := 29) 19 rfl rfl ?_
      refine z_callS1 (pc' := 32) 20 rfl rfl k_Mo_257 (c_Mo_digit (by omega) (by omega) (by omega) hP (by omega)) (by decide) (Nat.le_refl _) (Nat.le_refl _) rfl rfl (Nat.le_of_ble_eq_true rfl) ?_
      rw [show K - 1 - k = r by omega]
      refine z_iconst (v := nI 1) (by decide) (pc' := 33) 21 rfl rfl ?_
      refine z_isub (pc' := 34) 22 rfl rfl ?_
      refine z_callVX1 (pc' := 37) 23 rfl rfl k_Mo_227 (by first | exact pm_f | exact pm_1 | (rw [pm_o (by decide)]; first | exact zu_s | (rw [zu_n (by decide)]; first | exact zu_s | (rw [zu_n (by decide)]; assumption)))) (c_Mo_goes (act := dgt (S 0 0 + 1) r P) hi hD (by omega) (by omega) hx) (by decide) (Nat.le_refl _) (Nat.le_refl _) rfl rfl (Nat.le_of_ble_eq_true rfl) (fun q34 => ?_)
      first | refine z_iaddN (pc' := 38) 24 rfl rfl ?_ | refine z_iadd (pc' := 38) 24 rfl rfl ?_
      refine z_is4 rfl rfl (pc' := 40) 25 rfl rfl ?_
      first | refine z_inc5N rfl rfl (pc' := 43) 26 rfl rfl ?_ | refine z_inc5 rfl rfl rfl (pc' := 43) 26 rfl rfl ?_
      refine z_goto 27 rfl (tgt := 15) rfl ?_
      rw [un_un]
      exact l_Mo_worthOf hi hD hP hK r (k + 1) _ _ _ _ _ _ _ (by omega) (by omega) (mon_ok hi hx) Kk
set_option maxHeartbeats 4000000 in
set_option maxRecDepth 100000 in
theorem c_Mo_worthOf {G : zG} {n u : Nat} {ν : Nat → va_E} {s : Nat → Int32} {S : Nat → Nat → Nat} {ch : Int32} {rc : Nat} {ρ w : Nat → Int32} {D : zD6} (hi : iS S) (hD : dzM ρ rc D) {P K : Nat} (hP : P < 2 ^ 31) (hK : K ≤ 4) {mo : Nat} {pr fa : Nat → Nat} {sc : Int32} {q : Nat → Int32} (hm : mo + K ≤ 16) (hx : iX S pr fa) : zMet G 6 M_Mo_worthOf [.ref 88, .int (nI P), .int (nI K)] n u (pm (zu (zu ν 91 (.inl (0, 618, .inl w))) 93 (.inl (1, 100, .inl q))) s (mk S mo pr fa sc ch rc ρ)) n u (zS (some (.int (nI (rnA S D K P 0 (mo, pr, fa)).1))) (fun z : (Nat → Int32) × Int32 => pm (zu (zu ν 91 (.inl (0, 618, .inl w))) 93 (.inl (1, 100, .inl z.1))) (un (un s 14 z.2) 17 (nI (psN (rnA S D K P 0 (mo, pr, fa)).2.2.1 (S 0 0)))) w)) := by
  have hi0 := hi.1
  have hx2 := rnA_ok hi (D := D) K P 0 (mo, pr, fa) hx
  refine z_start (lv := [.ref 88, .int (nI P), .int (nI K), .retAddr 0, .retAddr 0, .retAddr 0]) K_Mo_worthOf rfl rfl (Nat.le_refl _) (Nat.le_refl _) (Nat.le_of_ble_eq_true rfl) rfl ?_
  refine z_al0 (pc' := 1) 0 rfl rfl ?_
  refine z_getf (pc' := 4) 1 rfl rfl f_Mo_9_12 (by first | exact pm_f | exact pm_1 | (rw [pm_o (by decide)]; first | exact zu_s | (rw [zu_n (by decide)]; first | exact zu_s | (rw [zu_n (by decide)]; assumption)))) (by rfl) ?_
  refine z_iconst (v := nI 3) (by decide) (pc' := 5) 2 rfl rfl ?_
  refine z_iald (pc' := 6) 3 rfl rfl (by first | exact pm_f | exact pm_1 | (rw [pm_o (by decide)]; first | exact zu_s | (rw [zu_n (by decide)]; first | exact zu_s | (rw [zu_n (by decide)]; assumption)))) (by omega) (by decide) ?_
  rw [mk_3]
  refine z_iconst (v := nI 1) (by decide) (pc' := 7) 4 rfl rfl ?_
  first | refine z_iaddN (pc' := 8) 5 rfl rfl ?_ | refine z_iadd (pc' := 8) 5 rfl rfl ?_
  refine z_is3 rfl rfl (pc' := 9) 6 rfl rfl ?_
  refine z_iconst (v := nI 0) (by decide) (pc' := 10) 7 rfl rfl ?_
  refine z_is4 rfl rfl (pc' := 12) 8 rfl rfl ?_
  refine z_iconst (v := nI 0) (by decide) (pc' := 13) 9 rfl rfl ?_
  refine z_is5 rfl rfl (pc' := 15) 10 rfl rfl ?_
  refine z_mu (show _ = pm (zu (zu ν 91 (.inl (0, 618, .inl w))) 93 (.inl (1, 100, .inl q))) (un s 14 (s 14)) (mk S mo pr fa sc ch rc ρ) by rw [un_id]) ?_
  refine l_Mo_worthOf hi hD hP hK K 0 _ _ _ _ _ _ 0 (by omega) hm hx (fun mo1 sc1 q1 v1 i1 => ?_)
  refine z_al0 (pc' := 47) 28 rfl rfl ?_
  refine z_al0 (pc' := 48) 29 rfl rfl ?_
  refine z_callV1 (pc' := 51) 30 rfl rfl k_Mo_260 (by first | exact pm_f | exact pm_1 | (rw [pm_o (by decide)]; first | exact zu_s | (rw [zu_n (by decide)]; first | exact zu_s | (rw [zu_n (by decide)]; assumption)))) (c_Mo_promised hi (fun j => (hx2 j).1)) (by decide) (Nat.le_refl _) (Nat.le_refl _) rfl rfl (Nat.le_of_ble_eq_true rfl) ?_
  refine z_putf (pc' := 54) 31 rfl rfl f_Mo_263_12 (by first | exact pm_f | exact pm_1 | (rw [pm_o (by decide)]; first | exact zu_s | (rw [zu_n (by decide)]; first | exact zu_s | (rw [zu_n (by decide)]; assumption)))) rfl rfl (by rfl) (by rfl) ?_
  dsimp only [List.set]
  rw [mob_17, pm_s0]
  refine z_al0 (pc' := 55) 32 rfl rfl ?_
  refine z_callV0 (pc' := 58) 33 rfl rfl k_Mo_200 (by first | exact pm_f | exact pm_1 | (rw [pm_o (by decide)]; first | exact zu_s | (rw [zu_n (by decide)]; first | exact zu_s | (rw [zu_n (by decide)]; assumption)))) (c_Mo_putsBack) (by decide) (Nat.le_refl _) (Nat.le_refl _) rfl rfl (Nat.le_of_ble_eq_true rfl) ?_
  refine z_il4 (pc' := 60) 34 rfl rfl ?_
  exact z_ireturn 35 rfl rfl (by first | rfl | exact zbo_nar) rfl rfl (by exact ⟨rfl, (q1, v1), rfl⟩)
def SM (s : Nat → Int32) (σ : zSr) : Prop := s 19 = hdI σ.1.1 ∧ (σ.1.1 ≠ 0 → s 20 = σ.1.2.1 ∧ s 18 = nI σ.1.2.2) ∧ σ.1.1 ≤ 1000
theorem bs_gt {w p : Nat} {x : Nat × Int32 × Nat} (h : ¬ w + 1 ≤ x.1) : bsS w p x = (w + 1, nI 1, p) := if_pos (by omega)
theorem bs_eq {w p : Nat} {x : Nat × Int32 × Nat} (h : w + 1 = x.1) : bsS w p x = (x.1, x.2.1 + nI 1, x.2.2) := by rw [bsS, if_neg (by omega), if_pos h.symm]
theorem bs_lt {w p : Nat} {x : Nat × Int32 × Nat} (h : w + 1 ≤ x.1) (h2 : ¬ w + 1 = x.1) : bsS w p x = x := by rw [bsS, if_neg (by omega), if_neg (by omega)]
set_option maxHeartbeats 4000000 in
set_option maxRecDepth 100000 in
theorem l_Mo_findBest {G : zG} {n u : Nat} {Φ : zP} {ν : Nat → va_E} {s : Nat → Int32} {S : Nat → Nat → Nat} {ch : Int32} {rc : Nat} {ρ : Nat → Int32} {D : zD6} (hi : iS S) (hD : dzM ρ rc D) {K : Nat} (hK : K ≤ 4) {mo : Nat} {pr fa : Nat → Nat} {sc : Int32} (hm : mo + K ≤ 16) (hx : iX S pr fa) {set : Int32} {x0 : Value} : ∀ c b (s1 q : Nat → Int32) (σ : zSr), b + c = (S 0 0 + 1) ^ K → sEq s s1 → SM s1 σ →
    (∀ (s2 q2 : Nat → Int32) i', sEq s s2 → SM s2 (fdN (lfS S D set K 0 0 (mo, pr, fa)) (c) (b) σ) → zW G 7 M_Mo_findBest 128 [.ref 88, x0, .int (nI K), .int (nI ((S 0 0 + 1) ^ K)), .int (nI ((S 0 0 + 1) ^ K)), i'] [] n u (pm (zu (zu ν 91 (.inl (0, 618, .inl (mk S mo pr fa sc ch rc ρ)))) 93 (.inl (1, 100, .inl q2))) s2 (mk S mo pr fa sc ch rc ρ)) n u Φ) →
    zW G 7 M_Mo_findBest 24 [.ref 88, x0, .int (nI K), .int (nI ((S 0 0 + 1) ^ K)), .int (nI b), .retAddr 0] [] n u (pm (zu (zu ν 91 (.inl (0, 618, .inl (mk S mo pr fa sc ch rc ρ)))) 93 (.inl (1, 100, .inl q))) s1 (mk S mo pr fa sc ch rc ρ)) n u Φ
  | 0, b, s1, q, σ, e, hs, hk, Kk => by
    have hN := N4 hi.1 hK
    refine z_il4 (pc' := 26) 15 rfl rfl ?_
    refine z_il3 (pc' := 27) 16 rfl rfl ?_
    first | refine z_icmp_geN (pc' := 30) 17 rfl rfl (tgt := 128) rfl (by omega) (by omega) (fun h27 => ?_) (fun h27 => ?_) | refine z_icmp_ge (pc' := 30) 17 rfl rfl (tgt := 128) rfl (fun h27 => ?_) (fun h27 => ?_)
    · have e9 : b = (S 0 0 + 1) ^ K := by omega
      subst e9
      exact Kk _ _ _ hs hk
    · exfalso; omega
  | c + 1, b, s1, q, σ, e, hs, hk, Kk => by
    have hN := N4 hi.1 hK
    obtain ⟨k1, k2, k3⟩ := hk
    have hw := rnA_le hi (D := D) K b 0 (mo, pr, fa)
    have hle := le_hd (a := (rnA S D K b 0 (mo, pr, fa)).1) (M := σ.1.1) (by omega) (by omega)
    refine z_il4 (pc' := 26) 15 rfl rfl ?_
    refine z_il3 (pc' := 27) 16 rfl rfl ?_
    first | refine z_icmp_geN (pc' := 30) 17 rfl rfl (tgt := 128) rfl (by omega) (by omega) (fun h27 => ?_) (fun h27 => ?_) | refine z_icmp_ge (pc' := 30) 17 rfl rfl (tgt := 128) rfl (fun h27 => ?_) (fun h27 => ?_)
    · exfalso; omega
    · refine z_al0 (pc' := 31) 18 rfl rfl ?_
      refine z_il4 (pc' := 33) 19 rfl rfl ?_
      refine z_il2 (pc' := 34) 20 rfl rfl ?_
      refine z_callVX1 (pc' := 37) 21 rfl rfl k_Mo_272 (by first | exact pm_f | exact pm_1 | (rw [pm_o (by decide)]; first | exact zu_s | (rw [zu_n (by decide)]; first | exact zu_s | (rw [zu_n (by decide)]; assumption)))) (c_Mo_worthOf hi hD (by omega) hK hm hx) (by decide) (Nat.le_refl _) (Nat.le_refl _) rfl rfl (Nat.le_of_ble_eq_true rfl) (fun q34 => ?_)
      refine z_is5 rfl rfl (pc' := 39) 22 rfl rfl ?_
      refine z_al0 (pc' := 40) 23 rfl rfl ?_
      refine z_il5 (pc' := 42) 24 rfl rfl ?_
      refine z_al0 (pc' := 43) 25 rfl rfl ?_
      refine z_getf (pc' := 46) 26 rfl rfl f_Mo_269_12 (by first | exact pm_f | exact pm_1 | (rw [pm_o (by decide)]; first | exact zu_s | (rw [zu_n (by decide)]; first | exact zu_s | (rw [zu_n (by decide)]; assumption)))) (by rfl) ?_
      refine z_te (show _ = hdI σ.1.1 from k1) ?_
      first | refine z_icmp_le (pc' := 49) 27 rfl rfl (tgt := 53) rfl (fun h46 => ?_) (fun h46 => ?_)
      · refine z_il5 (pc' := 55) 30 rfl rfl ?_
        refine z_al0 (pc' := 56) 31 rfl rfl ?_
        refine z_getf (pc' := 59) 32 rfl rfl f_Mo_269_12 (by first | exact pm_f | exact pm_1 | (rw [pm_o (by decide)]; first | exact zu_s | (rw [zu_n (by decide)]; first | exact zu_s | (rw [zu_n (by decide)]; assumption)))) (by rfl) ?_
        refine z_te (show _ = hdI σ.1.1 from k1) ?_
        first | refine z_icmp_ne (pc' := 62) 33 rfl rfl (tgt := 71) rfl (fun h59 => ?_) (fun h59 => ?_)
        · refine z_al0 (pc' := 72) 39 rfl rfl ?_
          refine z_getf (pc' := 75) 40 rfl rfl f_Mo_275_12 (by first | exact pm_f | exact pm_1 | (rw [pm_o (by decide)]; first | exact zu_s | (rw [zu_n (by decide)]; first | exact zu_s | (rw [zu_n (by decide)]; assumption)))) (by rfl) ?_
          refine z_putf (pc' := 78) 41 rfl rfl f_Mo_275_12 (by first | exact pm_f | exact pm_1 | (rw [pm_o (by decide)]; first | exact zu_s | (rw [zu_n (by decide)]; first | exact zu_s | (rw [zu_n (by decide)]; assumption)))) rfl rfl (by rfl) (by rfl) ?_
          dsimp only [List.set]
          rw [mob_20, pm_s0]
          refine z_al0 (pc' := 79) 42 rfl rfl ?_
          refine z_il5 (pc' := 81) 43 rfl rfl ?_
          refine z_al0 (pc' := 82) 44 rfl rfl ?_
          refine z_getf (pc' := 85) 45 rfl rfl f_Mo_269_12 (by first | exact pm_f | exact pm_1 | (rw [pm_o (by decide)]; first | exact zu_s | (rw [zu_n (by decide)]; first | exact zu_s | (rw [zu_n (by decide)]; assumption)))) (by rfl) ?_
          refine z_te (show _ = hdI σ.1.1 from k1) ?_
          refine z_icmp_le_t 46 rfl (tgt := 93) rfl h46 ?_
          refine z_al0 (pc' := 94) 49 rfl rfl ?_
          refine z_getf (pc' := 97) 50 rfl rfl f_Mo_278_12 (by first | exact pm_f | exact pm_1 | (rw [pm_o (by decide)]; first | exact zu_s | (rw [zu_n (by decide)]; first | exact zu_s | (rw [zu_n (by decide)]; assumption)))) (by rfl) ?_
          refine z_putf (pc' := 100) 51 rfl rfl f_Mo_278_12 (by first | exact pm_f | exact pm_1 | (rw [pm_o (by decide)]; first | exact zu_s | (rw [zu_n (by decide)]; first | exact zu_s | (rw [zu_n (by decide)]; assumption)))) rfl rfl (by rfl) (by rfl) ?_
          dsimp only [List.set]
          rw [mob_18, pm_s0]
          refine z_al0 (pc' := 101) 52 rfl rfl ?_
          refine z_il5 (pc' := 103) 53 rfl rfl ?_
          refine z_al0 (pc' := 104) 54 rfl rfl ?_
          refine z_getf (pc' := 107) 55 rfl rfl f_Mo_269_12 (by first | exact pm_f | exact pm_1 | (rw [pm_o (by decide)]; first | exact zu_s | (rw [zu_n (by decide)]; first | exact zu_s | (rw [zu_n (by decide)]; assumption)))) (by rfl) ?_
          refine z_te (show _ = hdI σ.1.1 from k1) ?_
          refine z_icmp_le_t 56 rfl (tgt := 115) rfl h46 ?_
          refine z_al0 (pc' := 116) 59 rfl rfl ?_
          refine z_getf (pc' := 119) 60 rfl rfl f_Mo_269_12 (by first | exact pm_f | exact pm_1 | (rw [pm_o (by decide)]; first | exact zu_s | (rw [zu_n (by decide)]; first | exact zu_s | (rw [zu_n (by decide)]; assumption)))) (by rfl) ?_
          refine z_te (show _ = hdI σ.1.1 from k1) ?_
          refine z_putf (pc' := 122) 61 rfl rfl f_Mo_269_12 (by first | exact pm_f | exact pm_1 | (rw [pm_o (by decide)]; first | exact zu_s | (rw [zu_n (by decide)]; first | exact zu_s | (rw [zu_n (by decide)]; assumption)))) rfl rfl (by rfl) (by rfl) ?_
          dsimp only [List.set]
          rw [mob_19, pm_s0]
          first | refine z_inc4N rfl rfl (pc' := 125) 62 rfl rfl ?_ | refine z_inc4 rfl rfl rfl (pc' := 125) 62 rfl rfl ?_
          refine z_goto 63 rfl (tgt := 24) rfl ?_
          refine z_less5 ?_
          refine l_Mo_findBest hi hD hK hm hx c (b + 1) _ _ (lfS S D set K 0 0 (mo, pr, fa) b σ) (by omega) (sEq_t hs ⟨rfl, rfl, rfl, rfl⟩) ?_ Kk
          show SM _ (bsS (rnA S D K b 0 (mo, pr, fa)).1 b σ.1, _, _)
          rw [bs_lt (hle.mp h46) (fun z => h59 ((hdI_eq (by omega) (by omega)).mpr z))]
          exact ⟨rfl, k2, k3⟩
        · refine z_al0 (pc' := 63) 34 rfl rfl ?_
          refine z_getf (pc' := 66) 35 rfl rfl f_Mo_275_12 (by first | exact pm_f | exact pm_1 | (rw [pm_o (by decide)]; first | exact zu_s | (rw [zu_n (by decide)]; first | exact zu_s | (rw [zu_n (by decide)]; assumption)))) (by rfl) ?_
          refine z_iconst (v := nI 1) (by decide) (pc' := 67) 36 rfl rfl ?_
          refine z_iadd (pc' := 68) 37 rfl rfl ?_
          refine z_goto 38 rfl (tgt := 75) rfl ?_
          refine z_putf (pc' := 78) 41 rfl rfl f_Mo_275_12 (by first | exact pm_f | exact pm_1 | (rw [pm_o (by decide)]; first | exact zu_s | (rw [zu_n (by decide)]; first | exact zu_s | (rw [zu_n (by decide)]; assumption)))) rfl rfl (by rfl) (by rfl) ?_
          dsimp only [List.set]
          rw [mob_20, pm_s0]
          refine z_al0 (pc' := 79) 42 rfl rfl ?_
          refine z_il5 (pc' := 81) 43 rfl rfl ?_
          refine z_al0 (pc' := 82) 44 rfl rfl ?_
          refine z_getf (pc' := 85) 45 rfl rfl f_Mo_269_12 (by first | exact pm_f | exact pm_1 | (rw [pm_o (by decide)]; first | exact zu_s | (rw [zu_n (by decide)]; first | exact zu_s | (rw [zu_n (by decide)]; assumption)))) (by rfl) ?_
          refine z_te (show _ = hdI σ.1.1 from k1) ?_
          refine z_icmp_le_t 46 rfl (tgt := 93) rfl h46 ?_
          refine z_al0 (pc' := 94) 49 rfl rfl ?_
          refine z_getf (pc' := 97) 50 rfl rfl f_Mo_278_12 (by first | exact pm_f | exact pm_1 | (rw [pm_o (by decide)]; first | exact zu_s | (rw [zu_n (by decide)]; first | exact zu_s | (rw [zu_n (by decide)]; assumption)))) (by rfl) ?_
          refine z_putf (pc' := 100) 51 rfl rfl f_Mo_278_12 (by first | exact pm_f | exact pm_1 | (rw [pm_o (by decide)]; first | exact zu_s | (rw [zu_n (by decide)]; first | exact zu_s | (rw [zu_n (by decide)]; assumption)))) rfl rfl (by rfl) (by rfl) ?_
          dsimp only [List.set]
          rw [mob_18, pm_s0]
          refine z_al0 (pc' := 101) 52 rfl rfl ?_
          refine z_il5 (pc' := 103) 53 rfl rfl ?_
          refine z_al0 (pc' := 104) 54 rfl rfl ?_
          refine z_getf (pc' := 107) 55 rfl rfl f_Mo_269_12 (by first | exact pm_f | exact pm_1 | (rw [pm_o (by decide)]; first | exact zu_s | (rw [zu_n (by decide)]; first | exact zu_s | (rw [zu_n (by decide)]; assumption)))) (by rfl) ?_
          refine z_te (show _ = hdI σ.1.1 from k1) ?_
          refine z_icmp_le_t 56 rfl (tgt := 115) rfl h46 ?_
          refine z_al0 (pc' := 116) 59 rfl rfl ?_
          refine z_getf (pc' := 119) 60 rfl rfl f_Mo_269_12 (by first | exact pm_f | exact pm_1 | (rw [pm_o (by decide)]; first | exact zu_s | (rw [zu_n (by decide)]; first | exact zu_s | (rw [zu_n (by decide)]; assumption)))) (by rfl) ?_
          refine z_te (show _ = hdI σ.1.1 from k1) ?_
          refine z_putf (pc' := 122) 61 rfl rfl f_Mo_269_12 (by first | exact pm_f | exact pm_1 | (rw [pm_o (by decide)]; first | exact zu_s | (rw [zu_n (by decide)]; first | exact zu_s | (rw [zu_n (by decide)]; assumption)))) rfl rfl (by rfl) (by rfl) ?_
          dsimp only [List.set]
          rw [mob_19, pm_s0]
          first | refine z_inc4N rfl rfl (pc' := 125) 62 rfl rfl ?_ | refine z_inc4 rfl rfl rfl (pc' := 125) 62 rfl rfl ?_
          refine z_goto 63 rfl (tgt := 24) rfl ?_
          refine z_less5 ?_
          refine l_Mo_findBest hi hD hK hm hx c (b + 1) _ _ (lfS S D set K 0 0 (mo, pr, fa) b σ) (by omega) (sEq_t hs ⟨rfl, rfl, rfl, rfl⟩) ?_ Kk
          show SM _ (bsS (rnA S D K b 0 (mo, pr, fa)).1 b σ.1, _, _)
          rw [bs_eq ((hdI_eq (by omega) (by omega)).mp h59)]
          exact ⟨rfl, fun z => ⟨by rw [← (k2 z).1]; rfl, (k2 z).2⟩, k3⟩
      · refine z_iconst (v := nI 1) (by decide) (pc' := 50) 28 rfl rfl ?_
        refine z_goto 29 rfl (tgt := 75) rfl ?_
        refine z_putf (pc' := 78) 41 rfl rfl f_Mo_275_12 (by first | exact pm_f | exact pm_1 | (rw [pm_o (by decide)]; first | exact zu_s | (rw [zu_n (by decide)]; first | exact zu_s | (rw [zu_n (by decide)]; assumption)))) rfl rfl (by rfl) (by rfl) ?_
        dsimp only [List.set]
        rw [mob_20, pm_s0]
        refine z_al0 (pc' := 79) 42 rfl rfl ?_
        refine z_il5 (pc' := 81) 43 rfl rfl ?_
        refine z_al0 (pc' := 82) 44 rfl rfl ?_
        refine z_getf (pc' := 85) 45 rfl rfl f_Mo_269_12 (by first | exact pm_f | exact pm_1 | (rw [pm_o (by decide)]; first | exact zu_s | (rw [zu_n (by decide)]; first | exact zu_s | (rw [zu_n (by decide)]; assumption)))) (by rfl) ?_
        refine z_te (show _ = hdI σ.1.1 from k1) ?_
        refine z_icmp_le_f (pc' := 88) 46 rfl rfl (tgt := 93) rfl h46 ?_
        refine z_il4 (pc' := 90) 47 rfl rfl ?_
        refine z_goto 48 rfl (tgt := 97) rfl ?_
        refine z_putf (pc' := 100) 51 rfl rfl f_Mo_278_12 (by first | exact pm_f | exact pm_1 | (rw [pm_o (by decide)]; first | exact zu_s | (rw [zu_n (by decide)]; first | exact zu_s | (rw [zu_n (by decide)]; assumption)))) rfl rfl (by rfl) (by rfl) ?_
        dsimp only [List.set]
        rw [mob_18, pm_s0]
        refine z_al0 (pc' := 101) 52 rfl rfl ?_
        refine z_il5 (pc' := 103) 53 rfl rfl ?_
        refine z_al0 (pc' := 104) 54 rfl rfl ?_
        refine z_getf (pc' := 107) 55 rfl rfl f_Mo_269_12 (by first | exact pm_f | exact pm_1 | (rw [pm_o (by decide)]; first | exact zu_s | (rw [zu_n (by decide)]; first | exact zu_s | (rw [zu_n (by decide)]; assumption)))) (by rfl) ?_
        refine z_te (show _ = hdI σ.1.1 from k1) ?_
        refine z_icmp_le_f (pc' := 110) 56 rfl rfl (tgt := 115) rfl h46 ?_
        refine z_il5 (pc' := 112) 57 rfl rfl ?_
        refine z_goto 58 rfl (tgt := 119) rfl ?_
        refine z_putf (pc' := 122) 61 rfl rfl f_Mo_269_12 (by first | exact pm_f | exact pm_1 | (rw [pm_o (by decide)]; first | exact zu_s | (rw [zu_n (by decide)]; first | exact zu_s | (rw [zu_n (by decide)]; assumption)))) rfl rfl (by rfl) (by rfl) ?_
        dsimp only [List.set]
        rw [mob_19, pm_s0]
        first | refine z_inc4N rfl rfl (pc' := 125) 62 rfl rfl ?_ | refine z_inc4 rfl rfl rfl (pc' := 125) 62 rfl rfl ?_
        refine z_goto 63 rfl (tgt := 24) rfl ?_
        refine z_less5 ?_
        refine l_Mo_findBest hi hD hK hm hx c (b + 1) _ _ (lfS S D set K 0 0 (mo, pr, fa) b σ) (by omega) (sEq_t hs ⟨rfl, rfl, rfl, rfl⟩) ?_ Kk
        show SM _ (bsS (rnA S D K b 0 (mo, pr, fa)).1 b σ.1, _, _)
        rw [bs_gt (fun z => h46 (hle.mpr z))]
        exact ⟨(hdI_s _).symm, fun _ => ⟨rfl, rfl⟩, by show _ + 1 ≤ 1000; omega⟩
set_option maxHeartbeats 4000000 in
set_option maxRecDepth 100000 in
theorem c_Mo_findBest {G : zG} {n u : Nat} {ν : Nat → va_E} {s : Nat → Int32} {S : Nat → Nat → Nat} {ch : Int32} {rc : Nat} {ρ : Nat → Int32} {D : zD6} (hi : iS S) (hD : dzM ρ rc D) {N : Nat} (hN : N ≤ 4) {mo : Nat} {pr fa : Nat → Nat} {sc : Int32} {q w : Nat → Int32} (hm : mo ≤ S 0 3) (hx : iX S pr fa) : zMet G 7 M_Mo_findBest [.ref 88, .int (nI N)] n u (pm (zu (zu ν 91 (.inl (0, 618, .inl w))) 93 (.inl (1, 100, .inl q))) s (mk S mo pr fa sc ch rc ρ)) n u (fun r μ' => r = none ∧ ∃ s2 q2 : Nat → Int32, μ' = pm (zu (zu ν 91 (.inl (0, 618, .inl (mk S mo pr fa sc ch rc ρ)))) 93 (.inl (1, 100, .inl q2))) s2 (mk S mo pr fa sc ch rc ρ) ∧ sEq s s2 ∧ SM s2 (srF S D (nI 0) (min N (S 0 3 - mo)) (mo, pr, fa))) := by
  have hi3 := hi.2.2.2.2.1
  have hK : min N (S 0 3 - mo) ≤ 4 := by omega
  refine z_start (lv := [.ref 88, .int (nI N), .retAddr 0, .retAddr 0, .retAddr 0, .retAddr 0]) K_Mo_findBest rfl rfl (Nat.le_refl _) (Nat.le_refl _) (Nat.le_of_ble_eq_true rfl) rfl ?_
  refine z_al0 (pc' := 1) 0 rfl rfl ?_
  refine z_il1 (pc' := 2) 1 rfl rfl ?_
  refine z_callV1 (pc' := 5) 2 rfl rfl k_Mo_254 (by first | exact pm_f | exact pm_1 | (rw [pm_o (by decide)]; first | exact zu_s | (rw [zu_n (by decide)]; first | exact zu_s | (rw [zu_n (by decide)]; assumption)))) (c_Mo_monthsOf hi hm (by omega)) (by decide) (Nat.le_refl _) (Nat.le_refl _) rfl rfl (Nat.le_of_ble_eq_true rfl) ?_
  refine z_is2 rfl rfl (pc' := 6) 3 rfl rfl ?_
  refine z_al0 (pc' := 7) 4 rfl rfl ?_
  refine z_il1 (pc' := 8) 5 rfl rfl ?_
  refine z_callV1 (pc' := 11) 6 rfl rfl k_Mo_266 (by first | exact pm_f | exact pm_1 | (rw [pm_o (by decide)]; first | exact zu_s | (rw [zu_n (by decide)]; first | exact zu_s | (rw [zu_n (by decide)]; assumption)))) (c_Mo_plansOf hi hm (by omega)) (by decide) (Nat.le_refl _) (Nat.le_refl _) rfl rfl (Nat.le_of_ble_eq_true rfl) ?_
  refine z_is3 rfl rfl (pc' := 12) 7 rfl rfl ?_
  refine z_al0 (pc' := 13) 8 rfl rfl ?_
  refine z_callV0 (pc' := 16) 9 rfl rfl k_Mo_194 (by first | exact pm_f | exact pm_1 | (rw [pm_o (by decide)]; first | exact zu_s | (rw [zu_n (by decide)]; first | exact zu_s | (rw [zu_n (by decide)]; assumption)))) (c_Mo_thinks) (by decide) (Nat.le_refl _) (Nat.le_refl _) rfl rfl (Nat.le_of_ble_eq_true rfl) ?_
  refine z_al0 (pc' := 17) 10 rfl rfl ?_
  refine z_iconst (v := (-1)) (by decide) (pc' := 18) 11 rfl rfl ?_
  refine z_putf (pc' := 21) 12 rfl rfl f_Mo_269_12 (by first | exact pm_f | exact pm_1 | (rw [pm_o (by decide)]; first | exact zu_s | (rw [zu_n (by decide)]; first | exact zu_s | (rw [zu_n (by decide)]; assumption)))) rfl rfl (by rfl) (by rfl) ?_
  dsimp only [List.set]
  rw [mob_19, pm_s0]
  refine z_iconst (v := nI 0) (by decide) (pc' := 22) 13 rfl rfl ?_
  refine z_is4 rfl rfl (pc' := 24) 14 rfl rfl ?_
  refine l_Mo_findBest (s := s) (set := nI 0) hi hD hK (by omega) hx _ 0 _ _ ((0, 0, 0), 5, 0) (Nat.zero_add _) ⟨rfl, rfl, rfl, rfl⟩ ⟨rfl, fun z => absurd rfl z, Nat.zero_le _⟩ (fun s2 q2 i2 g1 g2 => ?_)
  exact z_return 64 rfl rfl rfl rfl (by exact ⟨rfl, s2, q2, rfl, g1, g2⟩)
set_option maxHeartbeats 4000000 in
set_option maxRecDepth 100000 in
theorem c_Mo_best {G : zG} {n u : Nat} {μ : Nat → va_E} {κ : zκ} {s : Nat → Int32} (h : mst μ s κ) (x : Int32) :
    zMet G 8 M_Mo_best [.ref 88, .int x] n u μ n u (mK μ s (f_best κ x, κ)) := by
  obtain ⟨S, mo, pr, fa, sc, ch, rc, D⟩ := κ
  have hst := h
  obtain ⟨⟨ρ, h1, hD⟩, h2, ⟨q93, h93⟩, ⟨q91, h91⟩, ⟨q94, h94⟩, ⟨q95, h95⟩, ⟨q96, h96⟩, ⟨q97, h97⟩, h5⟩ := h
  have hk5 := h5
  obtain ⟨hi, hx, hmo, hrc⟩ := h5
  have hi0 := hi.1
  have hi1 := hi.2.1
  have hi2 := hi.2.2.1
  have hi3 := hi.2.2.2.2.1
  have hm16 : mo ≤ 16 := by omega
  refine z_start (lv := [.ref 88, .int x]) K_Mo_best rfl rfl (Nat.le_refl _) (Nat.le_refl _) (Nat.le_of_ble_eq_true rfl) rfl ?_
  refine z_mu (show μ = pm (zu (zu μ 91 (.inl (0, 618, .inl q91))) 93 (.inl (1, 100, .inl q93))) s (mk S mo pr fa sc ch rc ρ) by rw [zu_id h91, zu_id h93, pm_id h2 h1]) ?_
  refine z_il1 (pc' := 1) 0 rfl rfl ?_
  refine z_iconst (v := nI 0) (by decide) (pc' := 2) 1 rfl rfl ?_
  refine z_iconst (v := nI 4) (by decide) (pc' := 3) 2 rfl rfl ?_
  refine z_callS1 (pc' := 6) 3 rfl rfl k_Mo_67 (c_Mo_in _ _ _) (by decide) (Nat.le_refl _) (Nat.le_refl _) rfl rfl (Nat.le_of_ble_eq_true rfl) ?_
  first | refine z_if_neB (pc' := 9) 4 rfl rfl (tgt := 11) rfl (fun h6 => ?_) (fun h6 => ?_) | refine z_if_neN (pc' := 9) 4 rfl rfl (tgt := 11) rfl (by omega) (fun h6 => ?_) (fun h6 => ?_) | refine z_if_ne (pc' := 9) 4 rfl rfl (tgt := 11) rfl (fun h6 => ?_) (fun h6 => ?_)
  · obtain ⟨x1, hx1, hx2, rfl⟩ := z_wi h6 (by decide) (by decide)
    refine z_al0 (pc' := 12) 7 rfl rfl ?_
    refine z_il1 (pc' := 13) 8 rfl rfl ?_
    refine z_callV (pc' := 16) 9 rfl rfl k_Mo_281 (by first | exact pm_f | exact pm_1 | (rw [pm_o (by decide)]; first | exact zu_s | (rw [zu_n (by decide)]; first | exact zu_s | (rw [zu_n (by decide)]; assumption)))) (c_Mo_findBest hi hD (by omega) hmo hx) (by decide) (Nat.le_refl _) (Nat.le_refl _) rfl rfl (Nat.le_of_ble_eq_true rfl) (fun r13 μ13 h13 => ?_)
    obtain ⟨y0, s2, q2, y1, y2, y3⟩ := h13
    subst y0; subst y1
    dsimp only [Option.toList_none, List.nil_append]
    refine z_al0 (pc' := 17) 10 rfl rfl ?_
    refine z_getf (pc' := 20) 11 rfl rfl f_Mo_269_12 (by first | exact pm_f | exact pm_1 | (rw [pm_o (by decide)]; first | exact zu_s | (rw [zu_n (by decide)]; first | exact zu_s | (rw [zu_n (by decide)]; assumption)))) (by rfl) ?_
    refine z_te (show _ = hdI (srF S D (nI 0) (min x1 (S 0 3 - mo)) (mo, pr, fa)).1.1 from y3.1) ?_
    exact z_ireturn 12 rfl rfl (by first | rfl | exact zbo_nar) rfl rfl (by show mK μ s _ _ _; rw [f_best, if_pos h6, tN_n (by omega)]; exact mK_of3 hst (y2) hD (hk5))
  · refine z_iconst (v := (-1)) (by decide) (pc' := 10) 5 rfl rfl ?_
    exact z_ireturn 6 rfl rfl (by first | rfl | exact zbo_nar) rfl rfl (by show mK μ s _ _ _; rw [f_best, if_neg h6]; exact mK_of3 hst (sEq_r) hD (hk5))
set_option maxHeartbeats 4000000 in
set_option maxRecDepth 100000 in
theorem c_Mo_ways {G : zG} {n u : Nat} {μ : Nat → va_E} {κ : zκ} {s : Nat → Int32} (h : mst μ s κ) (x : Int32) :
    zMet G 8 M_Mo_ways [.ref 88, .int x] n u μ n u (mK μ s (f_ways κ x, κ)) := by
  obtain ⟨S, mo, pr, fa, sc, ch, rc, D⟩ := κ
  have hst := h
  obtain ⟨⟨ρ, h1, hD⟩, h2, ⟨q93, h93⟩, ⟨q91, h91⟩, ⟨q94, h94⟩, ⟨q95, h95⟩, ⟨q96, h96⟩, ⟨q97, h97⟩, h5⟩ := h
  have hk5 := h5
  obtain ⟨hi, hx, hmo, hrc⟩ := h5
  have hi0 := hi.1
  have hi1 := hi.2.1
  have hi2 := hi.2.2.1
  have hi3 := hi.2.2.2.2.1
  have hm16 : mo ≤ 16 := by omega
  refine z_start (lv := [.ref 88, .int x]) K_Mo_ways rfl rfl (Nat.le_refl _) (Nat.le_refl _) (Nat.le_of_ble_eq_true rfl) rfl ?_
  refine z_mu (show μ = pm (zu (zu μ 91 (.inl (0, 618, .inl q91))) 93 (.inl (1, 100, .inl q93))) s (mk S mo pr fa sc ch rc ρ) by rw [zu_id h91, zu_id h93, pm_id h2 h1]) ?_
  refine z_il1 (pc' := 1) 0 rfl rfl ?_
  refine z_iconst (v := nI 0) (by decide) (pc' := 2) 1 rfl rfl ?_
  refine z_iconst (v := nI 4) (by decide) (pc' := 3) 2 rfl rfl ?_
  refine z_callS1 (pc' := 6) 3 rfl rfl k_Mo_67 (c_Mo_in _ _ _) (by decide) (Nat.le_refl _) (Nat.le_refl _) rfl rfl (Nat.le_of_ble_eq_true rfl) ?_
  first | refine z_if_neB (pc' := 9) 4 rfl rfl (tgt := 11) rfl (fun h6 => ?_) (fun h6 => ?_) | refine z_if_neN (pc' := 9) 4 rfl rfl (tgt := 11) rfl (by omega) (fun h6 => ?_) (fun h6 => ?_) | refine z_if_ne (pc' := 9) 4 rfl rfl (tgt := 11) rfl (fun h6 => ?_) (fun h6 => ?_)
  · obtain ⟨x1, hx1, hx2, rfl⟩ := z_wi h6 (by decide) (by decide)
    refine z_al0 (pc' := 12) 7 rfl rfl ?_
    refine z_il1 (pc' := 13) 8 rfl rfl ?_
    refine z_callV (pc' := 16) 9 rfl rfl k_Mo_281 (by first | exact pm_f | exact pm_1 | (rw [pm_o (by decide)]; first | exact zu_s | (rw [zu_n (by decide)]; first | exact zu_s | (rw [zu_n (by decide)]; assumption)))) (c_Mo_findBest hi hD (by omega) hmo hx) (by decide) (Nat.le_refl _) (Nat.le_refl _) rfl rfl (Nat.le_of_ble_eq_true rfl) (fun r13 μ13 h13 => ?_)
    obtain ⟨y0, s2, q2, y1, y2, y3⟩ := h13
    subst y0; subst y1
    dsimp only [Option.toList_none, List.nil_append]
    refine z_al0 (pc' := 17) 10 rfl rfl ?_
    refine z_getf (pc' := 20) 11 rfl rfl f_Mo_275_12 (by first | exact pm_f | exact pm_1 | (rw [pm_o (by decide)]; first | exact zu_s | (rw [zu_n (by decide)]; first | exact zu_s | (rw [zu_n (by decide)]; assumption)))) (by rfl) ?_
    refine z_te (show _ = (srF S D (nI 0) (min x1 (S 0 3 - mo)) (mo, pr, fa)).1.2.1 from (y3.2.1 sr_pos).1) ?_
    exact z_ireturn 12 rfl rfl (by first | rfl | exact zbo_nar) rfl rfl (by show mK μ s _ _ _; rw [f_ways, if_pos h6, tN_n (by omega)]; exact mK_of3 hst (y2) hD (hk5))
  · refine z_iconst (v := (-1)) (by decide) (pc' := 10) 5 rfl rfl ?_
    exact z_ireturn 6 rfl rfl (by first | rfl | exact zbo_nar) rfl rfl (by show mK μ s _ _ _; rw [f_ways, if_neg h6]; exact mK_of3 hst (sEq_r) hD (hk5))
theorem fdN_inv2 {α : Type} {f : Nat → α → α} {P : α → Prop} {m : Nat} (h : ∀ p s, p < m → P s → P (f p s)) : ∀ c b s, b + c ≤ m → P s → P (fdN f c b s)
  | 0, b, s, _, q => q
  | c + 1, b, s, e, q => fdN_inv2 h c (b + 1) _ (by omega) (h b s (by omega) q)
theorem bsS_2 {w p : Nat} {x : Nat × Int32 × Nat} {m : Nat} (hp : p < m) (hx : x.2.2 < m) : (bsS w p x).2.2 < m := by
  unfold bsS
  split
  · exact hp
  · split
    · exact hx
    · exact hx
theorem sr_bp {S : Nat → Nat → Nat} (hi : iS S) {D : zD6} {set : Int32} {K : Nat} {t : zT3} (hK : K ≤ 4) : (srF S D set K t).1.2.2 < 2 ^ 31 := by
  have hN := N4 hi.1 hK
  unfold srF
  refine fdN_inv2 (P := fun s : zSr => s.1.2.2 < 2 ^ 31) (m := (S 0 0 + 1) ^ K) (fun p s hp q => ?_) _ _ _ (by omega) (by show 0 < 2 ^ 31; decide)
  exact bsS_2 (by omega) q
set_option maxHeartbeats 4000000 in
set_option maxRecDepth 100000 in
theorem c_Mo_ith {G : zG} {n u : Nat} {μ : Nat → va_E} {κ : zκ} {s : Nat → Int32} (h : mst μ s κ) (x y : Int32) :
    zMet G 8 M_Mo_ith [.ref 88, .int x, .int y] n u μ n u (mK μ s (f_ith κ x y, κ)) := by
  obtain ⟨S, mo, pr, fa, sc, ch, rc, D⟩ := κ
  have hst := h
  obtain ⟨⟨ρ, h1, hD⟩, h2, ⟨q93, h93⟩, ⟨q91, h91⟩, ⟨q94, h94⟩, ⟨q95, h95⟩, ⟨q96, h96⟩, ⟨q97, h97⟩, h5⟩ := h
  have hk5 := h5
  obtain ⟨hi, hx, hmo, hrc⟩ := h5
  have hi0 := hi.1
  have hi1 := hi.2.1
  have hi2 := hi.2.2.1
  have hi3 := hi.2.2.2.2.1
  have hm16 : mo ≤ 16 := by omega
  refine z_start (lv := [.ref 88, .int x, .int y, .retAddr 0]) K_Mo_ith rfl rfl (Nat.le_refl _) (Nat.le_refl _) (Nat.le_of_ble_eq_true rfl) rfl ?_
  refine z_mu (show μ = pm (zu (zu μ 91 (.inl (0, 618, .inl q91))) 93 (.inl (1, 100, .inl q93))) s (mk S mo pr fa sc ch rc ρ) by rw [zu_id h91, zu_id h93, pm_id h2 h1]) ?_
  refine z_il1 (pc' := 1) 0 rfl rfl ?_
  refine z_iconst (v := nI 0) (by decide) (pc' := 2) 1 rfl rfl ?_
  refine z_iconst (v := nI 4) (by decide) (pc' := 3) 2 rfl rfl ?_
  refine z_callS1 (pc' := 6) 3 rfl rfl k_Mo_67 (c_Mo_in _ _ _) (by decide) (Nat.le_refl _) (Nat.le_refl _) rfl rfl (Nat.le_of_ble_eq_true rfl) ?_
  first | refine z_if_eqB (pc' := 9) 4 rfl rfl (tgt := 18) rfl (fun h6 => ?_) (fun h6 => ?_) | refine z_if_eqN (pc' := 9) 4 rfl rfl (tgt := 18) rfl (by omega) (fun h6 => ?_) (fun h6 => ?_) | refine z_if_eq (pc' := 9) 4 rfl rfl (tgt := 18) rfl (fun h6 => ?_) (fun h6 => ?_)
  · refine z_iconst (v := (-1)) (by decide) (pc' := 19) 10 rfl rfl ?_
    exact z_ireturn 11 rfl rfl (by first | rfl | exact zbo_nar) rfl rfl (by show mK μ s _ _ _; rw [f_ith, if_neg h6]; exact mK_of3 hst (sEq_r) hD (hk5))
  · refine z_il2 (pc' := 10) 5 rfl rfl ?_
    refine z_iconst (v := nI 0) (by decide) (pc' := 11) 6 rfl rfl ?_
    refine z_iconst (v := nI 3) (by decide) (pc' := 12) 7 rfl rfl ?_
    refine z_callS1 (pc' := 15) 8 rfl rfl k_Mo_67 (c_Mo_in _ _ _) (by decide) (Nat.le_refl _) (Nat.le_refl _) rfl rfl (Nat.le_of_ble_eq_true rfl) ?_
    first | refine z_if_neB (pc' := 18) 9 rfl rfl (tgt := 20) rfl (fun h15 => ?_) (fun h15 => ?_) | refine z_if_neN (pc' := 18) 9 rfl rfl (tgt := 20) rfl (by omega) (fun h15 => ?_) (fun h15 => ?_) | refine z_if_ne (pc' := 18) 9 rfl rfl (tgt := 20) rfl (fun h15 => ?_) (fun h15 => ?_)
    · have hyy := h15
      obtain ⟨x1, hx1, hx2, rfl⟩ := z_wi h6 (by decide) (by decide)
      obtain ⟨y1, hy1, hy2, rfl⟩ := z_wi hyy (by decide) (by decide)
      refine z_al0 (pc' := 21) 12 rfl rfl ?_
      refine z_il1 (pc' := 22) 13 rfl rfl ?_
      refine z_callV1 (pc' := 25) 14 rfl rfl k_Mo_254 (by first | exact pm_f | exact pm_1 | (rw [pm_o (by decide)]; first | exact zu_s | (rw [zu_n (by decide)]; first | exact zu_s | (rw [zu_n (by decide)]; assumption)))) (c_Mo_monthsOf hi hmo (by omega)) (by decide) (Nat.le_refl _) (Nat.le_refl _) rfl rfl (Nat.le_of_ble_eq_true rfl) ?_
      refine z_is3 rfl rfl (pc' := 26) 15 rfl rfl ?_
      refine z_il2 (pc' := 27) 16 rfl rfl ?_
      refine z_il3 (pc' := 28) 17 rfl rfl ?_
      first | refine z_icmp_ltN (pc' := 31) 18 rfl rfl (tgt := 34) rfl (by omega) (by omega) (fun h28 => ?_) (fun h28 => ?_) | refine z_icmp_lt (pc' := 31) 18 rfl rfl (tgt := 34) rfl (fun h28 => ?_) (fun h28 => ?_)
      · refine z_al0 (pc' := 35) 21 rfl rfl ?_
        refine z_il1 (pc' := 36) 22 rfl rfl ?_
        refine z_callV (pc' := 39) 23 rfl rfl k_Mo_281 (by first | exact pm_f | exact pm_1 | (rw [pm_o (by decide)]; first | exact zu_s | (rw [zu_n (by decide)]; first | exact zu_s | (rw [zu_n (by decide)]; assumption)))) (c_Mo_findBest hi hD (by omega) hmo hx) (by decide) (Nat.le_refl _) (Nat.le_refl _) rfl rfl (Nat.le_of_ble_eq_true rfl) (fun r36 μ36 h36 => ?_)
        obtain ⟨w0, s2, q2, w1, w2, w3⟩ := h36
        subst w0; subst w1
        dsimp only [Option.toList_none, List.nil_append]
        have hbp : (srF S D (nI 0) (min x1 (S 0 3 - mo)) (mo, pr, fa)).1.2.2 < 2 ^ 31 := sr_bp hi (by omega)
        refine z_al0 (pc' := 40) 24 rfl rfl ?_
        refine z_getf (pc' := 43) 25 rfl rfl f_Mo_278_12 (by first | exact pm_f | exact pm_1 | (rw [pm_o (by decide)]; first | exact zu_s | (rw [zu_n (by decide)]; first | exact zu_s | (rw [zu_n (by decide)]; assumption)))) (by rfl) ?_
        refine z_te (show _ = nI (srF S D (nI 0) (min x1 (S 0 3 - mo)) (mo, pr, fa)).1.2.2 from (w3.2.1 sr_pos).2) ?_
        refine z_al0 (pc' := 44) 26 rfl rfl ?_
        refine z_getf (pc' := 47) 27 rfl rfl f_Mo_9_12 (by first | exact pm_f | exact pm_1 | (rw [pm_o (by decide)]; first | exact zu_s | (rw [zu_n (by decide)]; first | exact zu_s | (rw [zu_n (by decide)]; assumption)))) (by rfl) ?_
        refine z_iconst (v := nI 3) (by decide) (pc' := 48) 28 rfl rfl ?_
        refine z_iald (pc' := 49) 29 rfl rfl (by first | exact pm_f | exact pm_1 | (rw [pm_o (by decide)]; first | exact zu_s | (rw [zu_n (by decide)]; first | exact zu_s | (rw [zu_n (by decide)]; assumption)))) (by omega) (by decide) ?_
        rw [mk_3]
        refine z_iconst (v := nI 1) (by decide) (pc' := 50) 30 rfl rfl ?_
        first | refine z_iaddN (pc' := 51) 31 rfl rfl ?_ | refine z_iadd (pc' := 51) 31 rfl rfl ?_
        refine z_il2 (pc' := 52) 32 rfl rfl ?_
        refine z_il3 (pc' := 53) 33 rfl rfl ?_
        refine z_callS1 (pc' := 56) 34 rfl rfl k_Mo_257 (c_Mo_digit (by omega) (by omega) (by omega) hbp (by omega)) (by decide) (Nat.le_refl _) (Nat.le_refl _) rfl rfl (Nat.le_of_ble_eq_true rfl) ?_
        exact z_ireturn 35 rfl rfl (by first | rfl | exact zbo_nar) rfl rfl (by show mK μ s _ _ _; rw [f_ith, if_pos h6, if_pos hyy, tN_n (show x1 < 2 ^ 31 by omega), tN_n (show y1 < 2 ^ 31 by omega), if_pos (by omega)]; exact mK_of3 hst (w2) hD (hk5))
      · refine z_bipush (v := (-3)) (by decide) (pc' := 33) 19 rfl rfl ?_
        exact z_ireturn 20 rfl rfl (by first | rfl | exact zbo_nar) rfl rfl (by show mK μ s _ _ _; rw [f_ith, if_pos h6, if_pos hyy, tN_n (show x1 < 2 ^ 31 by omega), tN_n (show y1 < 2 ^ 31 by omega), if_neg (by omega)]; exact mK_of3 hst (sEq_r) hD (hk5))
    · refine z_iconst (v := (-1)) (by decide) (pc' := 19) 10 rfl rfl ?_
      exact z_ireturn 11 rfl rfl (by first | rfl | exact zbo_nar) rfl rfl (by show mK μ s _ _ _; rw [f_ith, if_pos h6, if_neg h15]; exact mK_of3 hst (sEq_r) hD (hk5))
