/-! ===== the reference's order: who is held, who was asked ===== -/
def xv (S : Nat → Nat → Nat) (t : Nat) (mt A : Nat → Nat) : Nat → Nat := fun g => if mt g = 6 then A g else ky S t g (mt g)
def kpI (S : Nat → Nat → Nat) (t : Nat) (A mt as : Nat → Nat) : Prop := (∀ g, g < S 0 0 → as g < 64 ∧ (∀ w, w < S 0 1 → (as g / 2 ^ w % 2 = 1 ↔ ky S t g w < A g)) ∧ (mt g = 6 ∨ (mt g < S 0 1 ∧ A g = ky S t g (mt g) + 1))) ∧ (∀ g h, g < S 0 0 → h < S 0 0 → mt g ≠ 6 → mt g = mt h → g = h) ∧ JX S t (xv S t mt A) ∧ dM S t (xv S t mt A)
section KM
variable {S : Nat → Nat → Nat} {t : Nat} {A mt as : Nat → Nat}
theorem xv_6 {g : Nat} (h : mt g = 6) : xv S t mt A g = A g := if_pos h
theorem xv_m {g : Nat} (h : mt g ≠ 6) : xv S t mt A g = ky S t g (mt g) := if_neg h
theorem cw_ky (hi : iS S) {g m : Nat} (hm : m < S 0 1) : cwN S t g (ky S t g m) (S 0 1) = m := cw_is hi hm (Nat.le_refl _) (fun _ _ h => h)
theorem bit_or {x w b : Nat} : (x ||| 2 ^ w) / 2 ^ b % 2 = 1 ↔ (x / 2 ^ b % 2 = 1 ∨ w = b) := by
  rw [tb_i, tb_i, Nat.testBit_or, Nat.testBit_two_pow]
  simp
/-- w is the next one that g asks -/
theorem kpI_asks (hi : iS S) {g w : Nat} (h : kpI S t A mt as) (hg : g < S 0 0) (hm : mt g = 6) (hw : cwN S t g (A g) (S 0 1) = w) (hw6 : w ≠ 6) : w < S 0 1 ∧ A g ≤ ky S t g w ∧ (∀ w', w' < S 0 1 → A g ≤ ky S t g w' → ky S t g w ≤ ky S t g w') ∧ (as g ||| 2 ^ w < 64) ∧ (∀ w', w' < S 0 1 → ((as g ||| 2 ^ w) / 2 ^ w' % 2 = 1 ↔ ky S t g w' < ky S t g w + 1)) ∧ smN S t (un A g (ky S t g w + 1)) (S 0 0) < smN S t A (S 0 0) := by
  have h6 := hi.2.1
  obtain ⟨a1, a2, a3⟩ := h.1 g hg
  have c := cw_s hi (t := t) (g := g) (L := A g)
  rw [hw] at c
  rcases c with ⟨c, _⟩ | ⟨c1, c2, c3⟩
  · exact absurd c hw6
  refine ⟨c1, c2, c3, Nat.or_lt_two_pow (n := 6) a1 (Nat.pow_lt_pow_right (by decide) (by omega)), fun w' hw' => ?_, smN_dr (cnN_dr c2 (Nat.lt_succ_self _) _ c1) _ hg⟩
  rw [bit_or, a2 w' hw']
  constructor
  · rintro (z | z)
    · omega
    · subst z; omega
  · intro z
    rcases Nat.lt_or_ge (ky S t g w') (A g) with q | q
    · exact Or.inl q
    · have := c3 w' hw' q
      exact Or.inr (ky_inj (t := t) (g := g) hi (by omega) (by omega) (by omega))
theorem kpI_a (hi : iS S) {g w : Nat} (h : kpI S t A mt as) (hg : g < S 0 0) (hm : mt g = 6) (hw : cwN S t g (A g) (S 0 1) = w) (hw6 : w ≠ 6) (ho : ∀ o, o < S 0 0 → mt o ≠ w) : kpI S t (un A g (ky S t g w + 1)) (un mt g w) (un as g (as g ||| 2 ^ w)) := by
  obtain ⟨k1, k2, k3, k4, k5, k6⟩ := kpI_asks hi h hg hm hw hw6
  obtain ⟨h1, h2, h3, h4⟩ := h
  have hs : sR S t (xv S t mt A) (xv S t (un mt g w) (un A g (ky S t g w + 1))) := fun g0 hg0 w0 hw0 => by
    unfold xv
    by_cases e : g0 = g
    · subst e
      rw [un_s, un_s, if_pos hm, if_neg hw6]
      constructor
      · intro z; omega
      · intro z
        rcases Nat.lt_or_ge (ky S t g0 w0) (A g0) with q | q
        · exact q
        · have := k3 w0 hw0 q; omega
    · rw [un_n e, un_n e]
  refine ⟨fun g0 hg0 => ?_, fun a b ha hb q1 q2 => ?_, sR_J hs h3, sR_d hs h4⟩
  · by_cases e : g0 = g
    · subst e
      rw [un_s, un_s, un_s]
      exact ⟨k4, k5, Or.inr ⟨k1, rfl⟩⟩
    · rw [un_n e, un_n e, un_n e]
      exact h1 g0 hg0
  · by_cases e1 : a = g
    · by_cases e2 : b = g
      · rw [e1, e2]
      · rw [e1, un_s, un_n e2] at q2
        exact absurd q2.symm (ho b hb)
    · by_cases e2 : b = g
      · rw [e2, un_s, un_n e1] at q2
        exact absurd q2 (ho a ha)
      · rw [un_n e1] at q1 q2
        rw [un_n e2] at q2
        exact h2 a b ha hb q1 q2
theorem kpI_b (hi : iS S) {g w o : Nat} (h : kpI S t A mt as) (hg : g < S 0 0) (hm : mt g = 6) (hw : cwN S t g (A g) (S 0 1) = w) (hw6 : w ≠ 6) (ho : o < S 0 0) (ho2 : mt o = w) (hl : wlB S w g o = true) : kpI S t (un A g (ky S t g w + 1)) (un (un mt g w) o 6) (un as g (as g ||| 2 ^ w)) := by
  obtain ⟨k1, k2, k3, k4, k5, k6⟩ := kpI_asks hi h hg hm hw hw6
  obtain ⟨h1, h2, h3, h4⟩ := h
  have hgo : o ≠ g := fun z => by rw [z, hm] at ho2; exact hw6 ho2.symm
  obtain ⟨-, -, a3⟩ := h1 o ho
  have a4 : A o = ky S t o w + 1 := by
    rcases a3 with a3 | a3
    · exact absurd (ho2.symm.trans a3) hw6
    · rw [a3.2, ho2]
  have cg : cW S t (xv S t mt A) g = w := by
    show cwN S t g (xv S t mt A g) (S 0 1) = w
    rw [xv_6 hm]; exact hw
  have co : cW S t (xv S t mt A) o = w := by
    show cwN S t o (xv S t mt A o) (S 0 1) = w
    rw [xv_m (by rw [ho2]; exact hw6), ho2]; exact cw_ky hi k1
  obtain ⟨s1, s2⟩ := kp_step hi h3 h4 ho hg hgo hw6 co cg hl
  have hs : sR S t (un (xv S t mt A) o (ky S t o w + 1)) (xv S t (un (un mt g w) o 6) (un A g (ky S t g w + 1))) := fun g0 hg0 w0 hw0 => by
    by_cases e : g0 = o
    · subst e
      rw [un_s, xv_6 (un_s), un_n hgo, a4]
    · rw [un_n e]
      by_cases e2 : g0 = g
      · subst e2
        rw [xv_6 hm, xv_m (by rw [un_n e, un_s]; exact hw6), un_n e, un_s]
        constructor
        · intro z; omega
        · intro z
          rcases Nat.lt_or_ge (ky S t g0 w0) (A g0) with q | q
          · exact q
          · have := k3 w0 hw0 q; omega
      · unfold xv
        rw [un_n e, un_n e2, un_n e2]
  refine ⟨fun g0 hg0 => ?_, fun a b ha hb q1 q2 => ?_, sR_J hs s1, sR_d hs s2⟩
  · by_cases e : g0 = g
    · subst e
      rw [un_s, un_s, un_n (Ne.symm hgo), un_s]
      exact ⟨k4, k5, Or.inr ⟨k1, rfl⟩⟩
    · rw [un_n e, un_n e]
      obtain ⟨b1, b2, b3⟩ := h1 g0 hg0
      by_cases e2 : g0 = o
      · rw [e2, un_s, ← e2]; exact ⟨b1, b2, Or.inl rfl⟩
      · rw [un_n e2, un_n e]; exact ⟨b1, b2, b3⟩
  · have ea : a ≠ o := fun z => by rw [z, un_s] at q1; exact q1 rfl
    rw [un_n ea] at q1 q2
    by_cases eb : b = o
    · rw [eb, un_s] at q2; exact absurd q2 q1
    · rw [un_n eb] at q2
      by_cases e1 : a = g
      · by_cases e2 : b = g
        · rw [e1, e2]
        · rw [e1, un_s, un_n e2] at q2
          exact absurd (h2 b o hb ho (by rw [← q2]; exact hw6) (by rw [← q2, ho2])) eb
      · by_cases e2 : b = g
        · rw [e2, un_s, un_n e1] at q2
          exact absurd (h2 a o ha ho (by rw [q2]; exact hw6) (by rw [q2, ho2])) ea
        · rw [un_n e1] at q1 q2
          rw [un_n e2] at q2
          exact h2 a b ha hb q1 q2
theorem kpI_c (hi : iS S) {g w o : Nat} (h : kpI S t A mt as) (hg : g < S 0 0) (hm : mt g = 6) (hw : cwN S t g (A g) (S 0 1) = w) (hw6 : w ≠ 6) (ho : o < S 0 0) (ho2 : mt o = w) (hl : ¬ wlB S w g o = true) : kpI S t (un A g (ky S t g w + 1)) mt (un as g (as g ||| 2 ^ w)) := by
  obtain ⟨k1, k2, k3, k4, k5, k6⟩ := kpI_asks hi h hg hm hw hw6
  obtain ⟨h1, h2, h3, h4⟩ := h
  have hgo : o ≠ g := fun z => by rw [z, hm] at ho2; exact hw6 ho2.symm
  have cg : cW S t (xv S t mt A) g = w := by
    show cwN S t g (xv S t mt A g) (S 0 1) = w
    rw [xv_6 hm]; exact hw
  have co : cW S t (xv S t mt A) o = w := by
    show cwN S t o (xv S t mt A o) (S 0 1) = w
    rw [xv_m (by rw [ho2]; exact hw6), ho2]; exact cw_ky hi k1
  obtain ⟨s1, s2⟩ := kp_step hi h3 h4 hg ho (Ne.symm hgo) hw6 cg co (wl_to (Ne.symm hgo) hl)
  have hs : sR S t (un (xv S t mt A) g (ky S t g w + 1)) (xv S t mt (un A g (ky S t g w + 1))) := fun g0 hg0 w0 hw0 => by
    by_cases e : g0 = g
    · subst e
      rw [un_s, xv_6 hm, un_s]
    · rw [un_n e]
      unfold xv
      rw [un_n e]
  refine ⟨fun g0 hg0 => ?_, h2, sR_J hs s1, sR_d hs s2⟩
  by_cases e : g0 = g
  · subst e
    rw [un_s, un_s]
    exact ⟨k4, k5, Or.inl hm⟩
  · rw [un_n e, un_n e]
    exact h1 g0 hg0
theorem kpI_end (hi : iS S) (h : kpI S t A mt as) (hf : ∀ g, g < S 0 0 → mt g ≠ 6 ∨ cwN S t g (A g) (S 0 1) = 6) {g : Nat} (hg : g < S 0 0) : mt g = cW S t (kpL S t 37 (fun _ => 0)) g := by
  obtain ⟨h1, h2, h3, h4⟩ := h
  have hc : ∀ g, g < S 0 0 → cW S t (xv S t mt A) g = mt g := fun g hg => by
    show cwN S t g (xv S t mt A g) (S 0 1) = _
    by_cases e : mt g = 6
    · rw [xv_6 e, e]
      exact (hf g hg).resolve_left (fun z => z e)
    · rw [xv_m e]
      rcases (h1 g hg).2.2 with q | q
      · exact absurd q e
      · exact cw_ky hi q.1
  obtain ⟨k1, k2, k3⟩ := kp37 hi (t := t)
  rw [← hc g hg]
  refine kp_uni (fun a b ha hb q1 q2 => ?_) h3 h4 k1 k2 k3 hg
  rw [hc a ha] at q1 q2
  rw [hc b hb] at q2
  exact h2 a b ha hb q1 q2
theorem kpI_0 : kpI S t (fun _ => 0) (fun _ => 6) (fun _ => 0) :=
  ⟨fun g _ => ⟨by show 0 < 64; decide, fun w _ => by simp, Or.inl rfl⟩, fun _ _ _ _ h _ => absurd rfl h, kp_0J, kp_0d⟩
end KM
theorem kp0_lt {S : Nat → Nat → Nat} {t : Nat} (hi : iS S) : smN S t (fun _ => 0) (S 0 0) < 37 := by
  have := smN_le hi (t := t) (X := fun _ => 0) (S 0 0)
  have := hi.1
  omega
theorem upd_h {f : Nat → Nat} {k x : Nat} : upd (fun j => hasI (f j)) k (hasI x) = fun j => hasI (un f k x j) := by
  funext j
  by_cases h : j = k
  · subst h; rw [upd_at, un_s]
  · rw [upd_no h, un_n h]
section P94
variable {ν : Nat → va_E} {s m : Nat → Int32} {c d e : va_E}
theorem pm_94 : zu (pm (zu (zu ν 94 c) 95 d) s m) 94 e = pm (zu (zu ν 94 e) 95 d) s m := by
  unfold pm
  rw [zu_sw (a := 89) (b := 94) (by decide), zu_sw (a := 88) (b := 94) (by decide), zu_sw (a := 95) (b := 94) (by decide), zu_zu]
theorem pm_95 : zu (pm (zu (zu ν 94 c) 95 d) s m) 95 e = pm (zu (zu ν 94 c) 95 e) s m := by
  unfold pm
  rw [zu_sw (a := 89) (b := 95) (by decide), zu_sw (a := 88) (b := 95) (by decide), zu_zu]
end P94
set_option maxHeartbeats 4000000 in
set_option maxRecDepth 100000 in
theorem l_Mo_nextFor {G : zG} {n u : Nat} {ν : Nat → va_E} {s : Nat → Int32} {S : Nat → Nat → Nat} {mo : Nat} {pr fa : Nat → Nat} {sc ch : Int32} {rc : Nat} {ρ : Nat → Int32} {mt as : Nat → Nat} (hi : iS S) (hm : mo ≤ 16) {g L : Nat} (hg : g < 6) (h64 : as g < 64) (hb : ∀ w, w < S 0 1 → (as g / 2 ^ w % 2 = 1 ↔ ky S (hmo mo) g w < L)) {Φ : zP} : ∀ j k b, k + j = S 0 1 → b = cwN S (hmo mo) g L k → (Φ (some (.int (hasI (cwN S (hmo mo) g L (S 0 1))))) (pm (zu (zu ν 94 (.inl (0, 6, .inl (fun j => hasI (mt j))))) 95 (.inl (0, 6, .inl (fun j => nI (as j))))) s (mk S mo pr fa sc ch rc ρ))) →
    zW G 4 M_Mo_nextFor 4 [.ref 88, .int (nI g), .int (hasI b), .int (nI k)] [] n u (pm (zu (zu ν 94 (.inl (0, 6, .inl (fun j => hasI (mt j))))) 95 (.inl (0, 6, .inl (fun j => nI (as j))))) s (mk S mo pr fa sc ch rc ρ)) n u Φ
  | 0, k, b, e, eb, K => by
    have hi0 := hi.1
    have hi1 := hi.2.1
    have hh := hmo_le (mo := mo)
    obtain rfl : k = S 0 1 := by omega
    subst eb
    refine z_il3 (pc' := 5) 4 rfl rfl ?_
    refine z_al0 (pc' := 6) 5 rfl rfl ?_
    refine z_getf (pc' := 9) 6 rfl rfl f_Mo_9_12 (by first | exact pm_f | exact pm_1 | (rw [pm_o (by decide)]; first | exact zu_s | (rw [zu_n (by decide)]; exact zu_s))) (by rfl) ?_
    refine z_iconst (v := nI 2) (by decide) (pc' := 10) 7 rfl rfl ?_
    refine z_iald (pc' := 11) 8 rfl rfl (by first | exact pm_f | exact pm_1 | (rw [pm_o (by decide)]; first | exact zu_s | (rw [zu_n (by decide)]; exact zu_s))) (by omega) (by decide) ?_
    rw [mk_2]
    first | refine z_icmp_geN (pc' := 14) 9 rfl rfl (tgt := 49) rfl (by omega) (by omega) (fun h11 => ?_) (fun h11 => ?_) | refine z_icmp_ge (pc' := 14) 9 rfl rfl (tgt := 49) rfl (fun h11 => ?_) (fun h11 => ?_)
    · refine z_il2 (pc' := 50) 31 rfl rfl ?_
      exact z_ireturn 32 rfl rfl (by first | rfl | exact zbo_nar) rfl rfl (by exact K)
    · exfalso; omega
  | j + 1, k, b, e, eb, K => by
    have hi0 := hi.1
    have hi1 := hi.2.1
    have hh := hmo_le (mo := mo)
    have hb6 := cwN_le hi (t := hmo mo) (g := g) (L := L) k (by omega)
    rw [← eb] at hb6
    refine z_il3 (pc' := 5) 4 rfl rfl ?_
    refine z_al0 (pc' := 6) 5 rfl rfl ?_
    refine z_getf (pc' := 9) 6 rfl rfl f_Mo_9_12 (by first | exact pm_f | exact pm_1 | (rw [pm_o (by decide)]; first | exact zu_s | (rw [zu_n (by decide)]; exact zu_s))) (by rfl) ?_
    refine z_iconst (v := nI 2) (by decide) (pc' := 10) 7 rfl rfl ?_
    refine z_iald (pc' := 11) 8 rfl rfl (by first | exact pm_f | exact pm_1 | (rw [pm_o (by decide)]; first | exact zu_s | (rw [zu_n (by decide)]; exact zu_s))) (by omega) (by decide) ?_
    rw [mk_2]
    first | refine z_icmp_geN (pc' := 14) 9 rfl rfl (tgt := 49) rfl (by omega) (by omega) (fun h11 => ?_) (fun h11 => ?_) | refine z_icmp_ge (pc' := 14) 9 rfl rfl (tgt := 49) rfl (fun h11 => ?_) (fun h11 => ?_)
    · exfalso; omega
    · refine z_al0 (pc' := 15) 10 rfl rfl ?_
      refine z_getf (pc' := 18) 11 rfl rfl f_Mo_29_12 (by first | exact pm_f | exact pm_1 | (rw [pm_o (by decide)]; first | exact zu_s | (rw [zu_n (by decide)]; exact zu_s))) (by rfl) ?_
      refine z_il1 (pc' := 19) 12 rfl rfl ?_
      refine z_iald (pc' := 20) 13 rfl rfl (by first | exact pm_f | exact pm_1 | (rw [pm_o (by decide)]; first | exact zu_s | (rw [zu_n (by decide)]; exact zu_s))) (by omega) (by decide) ?_
      refine z_il3 (pc' := 21) 14 rfl rfl ?_
      refine z_ishr (pc' := 22) 15 rfl rfl ?_
      refine z_iconst (v := nI 1) (by decide) (pc' := 23) 16 rfl rfl ?_
      refine z_iand (pc' := 24) 17 rfl rfl ?_
      rw [nb_bit (by omega) (by omega)]
      first | refine z_if_neB (pc' := 27) 18 rfl rfl (tgt := 41) rfl (fun h24 => ?_) (fun h24 => ?_) | refine z_if_neN (pc' := 27) 18 rfl rfl (tgt := 41) rfl (by omega) (fun h24 => ?_) (fun h24 => ?_) | refine z_if_ne (pc' := 27) 18 rfl rfl (tgt := 41) rfl (fun h24 => ?_) (fun h24 => ?_)
      · refine z_il2 (pc' := 42) 27 rfl rfl ?_
        
        refine z_is2 rfl rfl (pc' := 43) 28 rfl rfl ?_
        first | refine z_inc3N rfl rfl (pc' := 46) 29 rfl rfl ?_ | refine z_inc3 rfl rfl rfl (pc' := 46) 29 rfl rfl ?_
        refine z_goto 30 rfl (tgt := 4) rfl ?_
        exact l_Mo_nextFor hi hm hg h64 hb j (k + 1) _ (by omega) (by rw [cwN, if_neg (fun z => by have := hb k (by omega); omega)]; exact eb) K
      · refine z_al0 (pc' := 28) 19 rfl rfl ?_
        refine z_il1 (pc' := 29) 20 rfl rfl ?_
        refine z_il3 (pc' := 30) 21 rfl rfl ?_
        refine z_il2 (pc' := 31) 22 rfl rfl ?_
        refine z_callV1 (pc' := 34) 23 rfl rfl k_Mo_236 (by first | exact pm_f | exact pm_1 | (rw [pm_o (by decide)]; first | exact zu_s | (rw [zu_n (by decide)]; exact zu_s))) (c_Mo_likes hi hm hg (by omega) hb6) (by decide) (Nat.le_refl _) (Nat.le_refl _) rfl rfl (Nat.le_of_ble_eq_true rfl) ?_
        first | refine z_if_eqB (pc' := 37) 24 rfl rfl (tgt := 41) rfl (fun h34 => ?_) (fun h34 => ?_) | refine z_if_eqN (pc' := 37) 24 rfl rfl (tgt := 41) rfl (by omega) (fun h34 => ?_) (fun h34 => ?_) | refine z_if_eq (pc' := 37) 24 rfl rfl (tgt := 41) rfl (fun h34 => ?_) (fun h34 => ?_)
        · refine z_il2 (pc' := 42) 27 rfl rfl ?_
          
          refine z_is2 rfl rfl (pc' := 43) 28 rfl rfl ?_
          first | refine z_inc3N rfl rfl (pc' := 46) 29 rfl rfl ?_ | refine z_inc3 rfl rfl rfl (pc' := 46) 29 rfl rfl ?_
          refine z_goto 30 rfl (tgt := 4) rfl ?_
          exact l_Mo_nextFor hi hm hg h64 hb j (k + 1) _ (by omega) (by rw [cwN, if_neg (fun z => h34 (by rw [eb]; exact z.2))]; exact eb) K
        · refine z_il3 (pc' := 38) 25 rfl rfl ?_
          refine z_goto 26 rfl (tgt := 42) rfl ?_
          refine z_te (hasI_n (show k ≠ 6 by omega)).symm ?_
          refine z_is2 rfl rfl (pc' := 43) 28 rfl rfl ?_
          first | refine z_inc3N rfl rfl (pc' := 46) 29 rfl rfl ?_ | refine z_inc3 rfl rfl rfl (pc' := 46) 29 rfl rfl ?_
          refine z_goto 30 rfl (tgt := 4) rfl ?_
          exact l_Mo_nextFor hi hm hg h64 hb j (k + 1) _ (by omega) (by rw [cwN, if_pos ⟨by have := hb k (by omega); omega, by rw [← eb]; exact h34⟩]) K
set_option maxHeartbeats 4000000 in
set_option maxRecDepth 100000 in
theorem c_Mo_nextFor {G : zG} {n u : Nat} {ν : Nat → va_E} {s : Nat → Int32} {S : Nat → Nat → Nat} {mo : Nat} {pr fa : Nat → Nat} {sc ch : Int32} {rc : Nat} {ρ : Nat → Int32} {mt as : Nat → Nat} (hi : iS S) (hm : mo ≤ 16) {g L : Nat} (hg : g < 6) (h64 : as g < 64) (hb : ∀ w, w < S 0 1 → (as g / 2 ^ w % 2 = 1 ↔ ky S (hmo mo) g w < L)) :
    zMet G 4 M_Mo_nextFor [.ref 88, .int (nI g)] n u ((pm (zu (zu ν 94 (.inl (0, 6, .inl (fun j => hasI (mt j))))) 95 (.inl (0, 6, .inl (fun j => nI (as j))))) s (mk S mo pr fa sc ch rc ρ))) n u (zE (some (.int (hasI (cwN S (hmo mo) g L (S 0 1))))) (pm (zu (zu ν 94 (.inl (0, 6, .inl (fun j => hasI (mt j))))) 95 (.inl (0, 6, .inl (fun j => nI (as j))))) s (mk S mo pr fa sc ch rc ρ))) := by
  refine z_start (lv := [.ref 88, .int (nI g), .retAddr 0, .retAddr 0]) K_Mo_nextFor rfl rfl (Nat.le_refl _) (Nat.le_refl _) (Nat.le_of_ble_eq_true rfl) rfl ?_
  refine z_iconst (v := (-1)) (by decide) (pc' := 1) 0 rfl rfl ?_
  refine z_is2 rfl rfl (pc' := 2) 1 rfl rfl ?_
  refine z_iconst (v := nI 0) (by decide) (pc' := 3) 2 rfl rfl ?_
  refine z_is3 rfl rfl (pc' := 4) 3 rfl rfl ?_
  exact l_Mo_nextFor hi hm hg h64 hb (S 0 1) 0 6 (by omega) rfl ⟨rfl, rfl⟩
set_option maxHeartbeats 4000000 in
set_option maxRecDepth 100000 in
theorem l_Mo_asks1 {G : zG} {n u : Nat} {ν : Nat → va_E} {s : Nat → Int32} {S : Nat → Nat → Nat} {mo : Nat} {pr fa : Nat → Nat} {sc ch : Int32} {rc : Nat} {ρ : Nat → Int32} {mt as : Nat → Nat} (hi : iS S) {g w : Nat} (hw : w < 6) (hmt : ∀ x, x < S 0 0 → mt x ≤ 6) {Φ : zP} (K : ∀ o v, ((o = 6 ∧ ∀ x, x < S 0 0 → mt x ≠ w) ∨ (o < S 0 0 ∧ mt o = w)) → zW G 5 M_Mo_asks 87 [.ref 88, .int (nI g), .int (nI w), .int (hasI o), v] [] n u (pm (zu (zu ν 94 (.inl (0, 6, .inl (fun j => hasI (mt j))))) 95 (.inl (0, 6, .inl (fun j => nI (as j))))) s (mk S mo pr fa sc ch rc ρ)) n u Φ) : ∀ j k o, k + j = S 0 0 → ((o = 6 ∧ ∀ x, x < k → mt x ≠ w) ∨ (o < S 0 0 ∧ mt o = w)) →
    zW G 5 M_Mo_asks 52 [.ref 88, .int (nI g), .int (nI w), .int (hasI o), .int (nI k)] [] n u (pm (zu (zu ν 94 (.inl (0, 6, .inl (fun j => hasI (mt j))))) 95 (.inl (0, 6, .inl (fun j => nI (as j))))) s (mk S mo pr fa sc ch rc ρ)) n u Φ
  | 0, k, o, e, h => by
    have hi0 := hi.1
    obtain rfl : k = S 0 0 := by omega
    refine z_il4 (pc' := 54) 35 rfl rfl ?_
    refine z_al0 (pc' := 55) 36 rfl rfl ?_
    refine z_getf (pc' := 58) 37 rfl rfl f_Mo_9_12 (by first | exact pm_f | exact pm_1 | (rw [pm_o (by decide)]; first | exact zu_s | (rw [zu_n (by decide)]; exact zu_s))) (by rfl) ?_
    refine z_iconst (v := nI 3) (by decide) (pc' := 59) 38 rfl rfl ?_
    refine z_iald (pc' := 60) 39 rfl rfl (by first | exact pm_f | exact pm_1 | (rw [pm_o (by decide)]; first | exact zu_s | (rw [zu_n (by decide)]; exact zu_s))) (by omega) (by decide) ?_
    rw [mk_3]
    first | refine z_icmp_geN (pc' := 63) 40 rfl rfl (tgt := 87) rfl (by omega) (by omega) (fun h60 => ?_) (fun h60 => ?_) | refine z_icmp_ge (pc' := 63) 40 rfl rfl (tgt := 87) rfl (fun h60 => ?_) (fun h60 => ?_)
    · exact K o _ h
    · exfalso; omega
  | j + 1, k, o, e, h => by
    have hi0 := hi.1
    have hmk := hmt k (by omega)
    refine z_il4 (pc' := 54) 35 rfl rfl ?_
    refine z_al0 (pc' := 55) 36 rfl rfl ?_
    refine z_getf (pc' := 58) 37 rfl rfl f_Mo_9_12 (by first | exact pm_f | exact pm_1 | (rw [pm_o (by decide)]; first | exact zu_s | (rw [zu_n (by decide)]; exact zu_s))) (by rfl) ?_
    refine z_iconst (v := nI 3) (by decide) (pc' := 59) 38 rfl rfl ?_
    refine z_iald (pc' := 60) 39 rfl rfl (by first | exact pm_f | exact pm_1 | (rw [pm_o (by decide)]; first | exact zu_s | (rw [zu_n (by decide)]; exact zu_s))) (by omega) (by decide) ?_
    rw [mk_3]
    first | refine z_icmp_geN (pc' := 63) 40 rfl rfl (tgt := 87) rfl (by omega) (by omega) (fun h60 => ?_) (fun h60 => ?_) | refine z_icmp_ge (pc' := 63) 40 rfl rfl (tgt := 87) rfl (fun h60 => ?_) (fun h60 => ?_)
    · exfalso; omega
    · refine z_al0 (pc' := 64) 41 rfl rfl ?_
      refine z_getf (pc' := 67) 42 rfl rfl f_Mo_26_12 (by first | exact pm_f | exact pm_1 | (rw [pm_o (by decide)]; first | exact zu_s | (rw [zu_n (by decide)]; exact zu_s))) (by rfl) ?_
      refine z_il4 (pc' := 69) 43 rfl rfl ?_
      refine z_iald (pc' := 70) 44 rfl rfl (by first | exact pm_f | exact pm_1 | (rw [pm_o (by decide)]; first | exact zu_s | (rw [zu_n (by decide)]; exact zu_s))) (by omega) (by decide) ?_
      refine z_il2 (pc' := 71) 45 rfl rfl ?_
      first | refine z_icmp_neH (pc' := 74) 46 rfl rfl (tgt := 79) rfl (by omega) (by omega) (fun h71 => ?_) (fun h71 => ?_) | refine z_icmp_neN (pc' := 74) 46 rfl rfl (tgt := 79) rfl (by omega) (by omega) (fun h71 => ?_) (fun h71 => ?_) | refine z_icmp_ne (pc' := 74) 46 rfl rfl (tgt := 79) rfl (fun h71 => ?_) (fun h71 => ?_)
      · refine z_il3 (pc' := 80) 49 rfl rfl ?_
        
        refine z_is3 rfl rfl (pc' := 81) 50 rfl rfl ?_
        first | refine z_inc4N rfl rfl (pc' := 84) 51 rfl rfl ?_ | refine z_inc4 rfl rfl rfl (pc' := 84) 51 rfl rfl ?_
        refine z_goto 52 rfl (tgt := 52) rfl ?_
        refine l_Mo_asks1 hi hw hmt K j (k + 1) _ (by omega) ?_
        rcases h with ⟨a, b⟩ | ⟨a, b⟩
        · refine Or.inl ⟨a, fun x hx => ?_⟩
          by_cases z : x = k
          · rw [z]; exact h71
          · exact b x (by omega)
        · exact Or.inr ⟨a, b⟩
      · refine z_il4 (pc' := 76) 47 rfl rfl ?_
        refine z_goto 48 rfl (tgt := 80) rfl ?_
        refine z_te (hasI_n (show k ≠ 6 by omega)).symm ?_
        refine z_is3 rfl rfl (pc' := 81) 50 rfl rfl ?_
        first | refine z_inc4N rfl rfl (pc' := 84) 51 rfl rfl ?_ | refine z_inc4 rfl rfl rfl (pc' := 84) 51 rfl rfl ?_
        refine z_goto 52 rfl (tgt := 52) rfl ?_
        refine l_Mo_asks1 hi hw hmt K j (k + 1) _ (by omega) ?_
        exact Or.inr ⟨by omega, h71⟩
/-- behind one asking -/
def asP (ν : Nat → va_E) (s : Nat → Int32) (S : Nat → Nat → Nat) (mo : Nat) (pr fa : Nat → Nat) (sc ch : Int32) (rc : Nat) (ρ : Nat → Int32) (A mt as : Nat → Nat) : zP := fun r μ' => (r = some (.int (nI 0)) ∧ μ' = (pm (zu (zu ν 94 (.inl (0, 6, .inl (fun j => hasI (mt j))))) 95 (.inl (0, 6, .inl (fun j => nI (as j))))) s (mk S mo pr fa sc ch rc ρ)) ∧ ∀ g, g < S 0 0 → mt g ≠ 6 ∨ cwN S (hmo mo) g (A g) (S 0 1) = 6) ∨ (r = some (.int (nI 1)) ∧ ∃ A' mt' as' : Nat → Nat, kpI S (hmo mo) A' mt' as' ∧ smN S (hmo mo) A' (S 0 0) < smN S (hmo mo) A (S 0 0) ∧ μ' = (pm (zu (zu ν 94 (.inl (0, 6, .inl (fun j => hasI (mt' j))))) 95 (.inl (0, 6, .inl (fun j => nI (as' j))))) s (mk S mo pr fa sc ch rc ρ)))
set_option maxHeartbeats 4000000 in
set_option maxRecDepth 100000 in
theorem l_Mo_asks2 {G : zG} {n u : Nat} {ν : Nat → va_E} {s : Nat → Int32} {S : Nat → Nat → Nat} {mo : Nat} {pr fa : Nat → Nat} {sc ch : Int32} {rc : Nat} {ρ : Nat → Int32} {mt as : Nat → Nat} (hi : iS S) (hm : mo ≤ 16) {A : Nat → Nat} (hk : kpI S (hmo mo) A mt as) : ∀ j k, k + j = S 0 0 → (∀ g, g < k → mt g ≠ 6 ∨ cwN S (hmo mo) g (A g) (S 0 1) = 6) →
    zW G 5 M_Mo_asks 2 [.ref 88, .int (nI k), .retAddr 0, .retAddr 0, .retAddr 0] [] n u (pm (zu (zu ν 94 (.inl (0, 6, .inl (fun j => hasI (mt j))))) 95 (.inl (0, 6, .inl (fun j => nI (as j))))) s (mk S mo pr fa sc ch rc ρ)) n u (asP ν s S mo pr fa sc ch rc ρ A mt as)
  | 0, k, e, hf => by
    have hi0 := hi.1
    have hi1 := hi.2.1
    have hh := hmo_le (mo := mo)
    obtain rfl : k = S 0 0 := by omega
    refine z_il1 (pc' := 3) 2 rfl rfl ?_
    refine z_al0 (pc' := 4) 3 rfl rfl ?_
    refine z_getf (pc' := 7) 4 rfl rfl f_Mo_9_12 (by first | exact pm_f | exact pm_1 | (rw [pm_o (by decide)]; first | exact zu_s | (rw [zu_n (by decide)]; exact zu_s))) (by rfl) ?_
    refine z_iconst (v := nI 3) (by decide) (pc' := 8) 5 rfl rfl ?_
    refine z_iald (pc' := 9) 6 rfl rfl (by first | exact pm_f | exact pm_1 | (rw [pm_o (by decide)]; first | exact zu_s | (rw [zu_n (by decide)]; exact zu_s))) (by omega) (by decide) ?_
    rw [mk_3]
    first | refine z_icmp_geN (pc' := 12) 7 rfl rfl (tgt := 127) rfl (by omega) (by omega) (fun h9 => ?_) (fun h9 => ?_) | refine z_icmp_ge (pc' := 12) 7 rfl rfl (tgt := 127) rfl (fun h9 => ?_) (fun h9 => ?_)
    · refine z_iconst (v := nI 0) (by decide) (pc' := 128) 77 rfl rfl ?_
      exact z_ireturn 78 rfl rfl (by first | rfl | exact zbo_nar) rfl rfl (by exact Or.inl ⟨rfl, rfl, hf⟩)
    · exfalso; omega
  | j + 1, k, e, hf => by
    have hi0 := hi.1
    have hi1 := hi.2.1
    have hh := hmo_le (mo := mo)
    obtain ⟨k1, k2, k3⟩ := hk.1 k (by omega)
    have hmk : mt k ≤ 6 := by omega
    have hc6 := cw_le hi (t := hmo mo) (g := k) (L := A k)
    have hmt : ∀ x, x < S 0 0 → mt x ≤ 6 := fun x hx => by have := (hk.1 x hx).2.2; omega
    refine z_il1 (pc' := 3) 2 rfl rfl ?_
    refine z_al0 (pc' := 4) 3 rfl rfl ?_
    refine z_getf (pc' := 7) 4 rfl rfl f_Mo_9_12 (by first | exact pm_f | exact pm_1 | (rw [pm_o (by decide)]; first | exact zu_s | (rw [zu_n (by decide)]; exact zu_s))) (by rfl) ?_
    refine z_iconst (v := nI 3) (by decide) (pc' := 8) 5 rfl rfl ?_
    refine z_iald (pc' := 9) 6 rfl rfl (by first | exact pm_f | exact pm_1 | (rw [pm_o (by decide)]; first | exact zu_s | (rw [zu_n (by decide)]; exact zu_s))) (by omega) (by decide) ?_
    rw [mk_3]
    first | refine z_icmp_geN (pc' := 12) 7 rfl rfl (tgt := 127) rfl (by omega) (by omega) (fun h9 => ?_) (fun h9 => ?_) | refine z_icmp_ge (pc' := 12) 7 rfl rfl (tgt := 127) rfl (fun h9 => ?_) (fun h9 => ?_)
    · exfalso; omega
    · refine z_al0 (pc' := 13) 8 rfl rfl ?_
      refine z_getf (pc' := 16) 9 rfl rfl f_Mo_26_12 (by first | exact pm_f | exact pm_1 | (rw [pm_o (by decide)]; first | exact zu_s | (rw [zu_n (by decide)]; exact zu_s))) (by rfl) ?_
      refine z_il1 (pc' := 17) 10 rfl rfl ?_
      refine z_iald (pc' := 18) 11 rfl rfl (by first | exact pm_f | exact pm_1 | (rw [pm_o (by decide)]; first | exact zu_s | (rw [zu_n (by decide)]; exact zu_s))) (by omega) (by decide) ?_
      first | refine z_if_geH (pc' := 21) 12 rfl rfl (tgt := 29) rfl hmk (fun h18 => ?_) (fun h18 => ?_) | refine z_if_geN (pc' := 21) 12 rfl rfl (tgt := 29) rfl (by omega) (fun h18 => ?_) (fun h18 => ?_) | refine z_if_ge (pc' := 21) 12 rfl rfl (tgt := 29) rfl (fun h18 => ?_) (fun h18 => ?_)
      · refine z_iconst (v := (-1)) (by decide) (pc' := 30) 17 rfl rfl ?_
        refine z_is2 rfl rfl (pc' := 31) 18 rfl rfl ?_
        refine z_il2 (pc' := 32) 19 rfl rfl ?_
        refine z_if_lt_t 20 rfl (tgt := 121) rfl (by decide) ?_
        first | refine z_inc1N rfl rfl (pc' := 124) 75 rfl rfl ?_ | refine z_inc1 rfl rfl rfl (pc' := 124) 75 rfl rfl ?_
        refine z_goto 76 rfl (tgt := 2) rfl ?_
        refine z_less2 ?_
        exact l_Mo_asks2 hi hm hk j (k + 1) (by omega) (fun g hg => by
          by_cases z : g = k
          · rw [z]; exact Or.inl h18
          · exact hf g (by omega))
      · refine z_al0 (pc' := 22) 13 rfl rfl ?_
        refine z_il1 (pc' := 23) 14 rfl rfl ?_
        refine z_callV1 (pc' := 26) 15 rfl rfl k_Mo_245 (by first | exact pm_f | exact pm_1 | (rw [pm_o (by decide)]; first | exact zu_s | (rw [zu_n (by decide)]; exact zu_s))) (c_Mo_nextFor hi hm (by omega) k1 k2) (by decide) (Nat.le_refl _) (Nat.le_refl _) rfl rfl (Nat.le_of_ble_eq_true rfl) ?_
        refine z_goto 16 rfl (tgt := 30) rfl ?_
        refine z_is2 rfl rfl (pc' := 31) 18 rfl rfl ?_
        refine z_il2 (pc' := 32) 19 rfl rfl ?_
        first | refine z_if_ltH (pc' := 35) 20 rfl rfl (tgt := 121) rfl hc6 (fun h32 => ?_) (fun h32 => ?_) | refine z_if_ltN (pc' := 35) 20 rfl rfl (tgt := 121) rfl (by omega) (fun h32 => ?_) (fun h32 => ?_) | refine z_if_lt (pc' := 35) 20 rfl rfl (tgt := 121) rfl (fun h32 => ?_) (fun h32 => ?_)
        · first | refine z_inc1N rfl rfl (pc' := 124) 75 rfl rfl ?_ | refine z_inc1 rfl rfl rfl (pc' := 124) 75 rfl rfl ?_
          refine z_goto 76 rfl (tgt := 2) rfl ?_
          refine z_less2 ?_
          exact l_Mo_asks2 hi hm hk j (k + 1) (by omega) (fun g hg => by
            by_cases z : g = k
            · rw [z]; exact Or.inr h32
            · exact hf g (by omega))
        · obtain ⟨q1, q2, q3, q4, q5, q6⟩ := kpI_asks hi hk (show k < S 0 0 by omega) h18 rfl h32
          rw [hasI_n h32]
          refine z_al0 (pc' := 36) 21 rfl rfl ?_
          refine z_getf (pc' := 39) 22 rfl rfl f_Mo_29_12 (by first | exact pm_f | exact pm_1 | (rw [pm_o (by decide)]; first | exact zu_s | (rw [zu_n (by decide)]; exact zu_s))) (by rfl) ?_
          refine z_il1 (pc' := 40) 23 rfl rfl ?_
          refine z_dup2 rfl rfl (pc' := 41) 24 rfl rfl ?_
          refine z_iald (pc' := 42) 25 rfl rfl (by first | exact pm_f | exact pm_1 | (rw [pm_o (by decide)]; first | exact zu_s | (rw [zu_n (by decide)]; exact zu_s))) (by omega) (by decide) ?_
          refine z_iconst (v := nI 1) (by decide) (pc' := 43) 26 rfl rfl ?_
          refine z_il2 (pc' := 44) 27 rfl rfl ?_
          refine z_ishl (pc' := 45) 28 rfl rfl ?_
          rw [nb_shl1 (by omega)]
          refine z_ior (pc' := 46) 29 rfl rfl ?_
          rw [nb_or]
          refine z_iast (pc' := 47) 30 rfl rfl (by first | exact pm_f | exact pm_1 | (rw [pm_o (by decide)]; first | exact zu_s | (rw [zu_n (by decide)]; exact zu_s))) (by omega) (by decide) ?_
          rw [upd_n, pm_95]
          refine z_iconst (v := (-1)) (by decide) (pc' := 48) 31 rfl rfl ?_
          refine z_is3 rfl rfl (pc' := 49) 32 rfl rfl ?_
          refine z_iconst (v := nI 0) (by decide) (pc' := 50) 33 rfl rfl ?_
          refine z_is4 rfl rfl (pc' := 52) 34 rfl rfl ?_
          refine l_Mo_asks1 hi (by omega) hmt (fun o v9 ho9 => ?_) (S 0 0) 0 6 (by omega) (Or.inl ⟨rfl, fun x hx => absurd hx (Nat.not_lt_zero x)⟩)
          have ho6 : o ≤ 6 := by rcases ho9 with ⟨a, _⟩ | ⟨a, _⟩ <;> omega
          refine z_il3 (pc' := 88) 53 rfl rfl ?_
          first | refine z_if_ltH (pc' := 91) 54 rfl rfl (tgt := 101) rfl ho6 (fun h88 => ?_) (fun h88 => ?_) | refine z_if_ltN (pc' := 91) 54 rfl rfl (tgt := 101) rfl (by omega) (fun h88 => ?_) (fun h88 => ?_) | refine z_if_lt (pc' := 91) 54 rfl rfl (tgt := 101) rfl (fun h88 => ?_) (fun h88 => ?_)
          · obtain ⟨-, q1⟩ := ho9.resolve_right (fun z => by omega)
            refine z_al0 (pc' := 102) 61 rfl rfl ?_
            refine z_getf (pc' := 105) 62 rfl rfl f_Mo_26_12 (by first | exact pm_f | exact pm_1 | (rw [pm_o (by decide)]; first | exact zu_s | (rw [zu_n (by decide)]; exact zu_s))) (by rfl) ?_
            refine z_il1 (pc' := 106) 63 rfl rfl ?_
            refine z_il2 (pc' := 107) 64 rfl rfl ?_
            refine z_iast (pc' := 108) 65 rfl rfl (by first | exact pm_f | exact pm_1 | (rw [pm_o (by decide)]; first | exact zu_s | (rw [zu_n (by decide)]; exact zu_s))) (by omega) (by decide) ?_
            rw [← hasI_n h32, upd_h, pm_94, hasI_n h32]
            refine z_il3 (pc' := 109) 66 rfl rfl ?_
            refine z_if_lt_t 67 rfl (tgt := 119) rfl (by rw [h88]; decide) ?_
            refine z_iconst (v := nI 1) (by decide) (pc' := 120) 73 rfl rfl ?_
            exact z_ireturn 74 rfl rfl (by first | rfl | exact zbo_nar) rfl rfl (by right; exact ⟨rfl, _, _, _, kpI_a hi hk (by omega) h18 rfl h32 q1, q6, rfl⟩)
          · obtain ⟨q1, q2⟩ := ho9.resolve_left (fun z => h88 z.1)
            rw [hasI_n h88]
            refine z_al0 (pc' := 92) 55 rfl rfl ?_
            refine z_il2 (pc' := 93) 56 rfl rfl ?_
            refine z_il1 (pc' := 94) 57 rfl rfl ?_
            refine z_il3 (pc' := 95) 58 rfl rfl ?_
            refine z_callV1 (pc' := 98) 59 rfl rfl k_Mo_239 (by first | exact pm_f | exact pm_1 | (rw [pm_o (by decide)]; first | exact zu_s | (rw [zu_n (by decide)]; exact zu_s))) (c_Mo_isLiked hi (by omega) (by omega) (by omega)) (by decide) (Nat.le_refl _) (Nat.le_refl _) rfl rfl (Nat.le_of_ble_eq_true rfl) ?_
            first | refine z_if_eqB (pc' := 101) 60 rfl rfl (tgt := 119) rfl (fun h98 => ?_) (fun h98 => ?_) | refine z_if_eqN (pc' := 101) 60 rfl rfl (tgt := 119) rfl (by omega) (fun h98 => ?_) (fun h98 => ?_) | refine z_if_eq (pc' := 101) 60 rfl rfl (tgt := 119) rfl (fun h98 => ?_) (fun h98 => ?_)
            · refine z_iconst (v := nI 1) (by decide) (pc' := 120) 73 rfl rfl ?_
              exact z_ireturn 74 rfl rfl (by first | rfl | exact zbo_nar) rfl rfl (by right; exact ⟨rfl, _, _, _, kpI_c hi hk (by omega) h18 rfl h32 q1 q2 h98, q6, rfl⟩)
            · skip
              refine z_al0 (pc' := 102) 61 rfl rfl ?_
              refine z_getf (pc' := 105) 62 rfl rfl f_Mo_26_12 (by first | exact pm_f | exact pm_1 | (rw [pm_o (by decide)]; first | exact zu_s | (rw [zu_n (by decide)]; exact zu_s))) (by rfl) ?_
              refine z_il1 (pc' := 106) 63 rfl rfl ?_
              refine z_il2 (pc' := 107) 64 rfl rfl ?_
              refine z_iast (pc' := 108) 65 rfl rfl (by first | exact pm_f | exact pm_1 | (rw [pm_o (by decide)]; first | exact zu_s | (rw [zu_n (by decide)]; exact zu_s))) (by omega) (by decide) ?_
              rw [← hasI_n h32, upd_h, pm_94, hasI_n h32]
              refine z_il3 (pc' := 109) 66 rfl rfl ?_
              refine z_if_lt_f (pc' := 112) 67 rfl rfl (tgt := 119) rfl (nI_pos (by omega)) ?_
              refine z_al0 (pc' := 113) 68 rfl rfl ?_
              refine z_getf (pc' := 116) 69 rfl rfl f_Mo_26_12 (by first | exact pm_f | exact pm_1 | (rw [pm_o (by decide)]; first | exact zu_s | (rw [zu_n (by decide)]; exact zu_s))) (by rfl) ?_
              refine z_il3 (pc' := 117) 70 rfl rfl ?_
              refine z_iconst (v := (-1)) (by decide) (pc' := 118) 71 rfl rfl ?_
              refine z_iast (pc' := 119) 72 rfl rfl (by first | exact pm_f | exact pm_1 | (rw [pm_o (by decide)]; first | exact zu_s | (rw [zu_n (by decide)]; exact zu_s))) (by omega) (by decide) ?_
              rw [← hasI_6, upd_h, pm_94]
              refine z_iconst (v := nI 1) (by decide) (pc' := 120) 73 rfl rfl ?_
              exact z_ireturn 74 rfl rfl (by first | rfl | exact zbo_nar) rfl rfl (by right; exact ⟨rfl, _, _, _, kpI_b hi hk (by omega) h18 rfl h32 q1 q2 h98, q6, rfl⟩)
set_option maxHeartbeats 4000000 in
set_option maxRecDepth 100000 in
theorem c_Mo_asks {G : zG} {n u : Nat} {ν : Nat → va_E} {s : Nat → Int32} {S : Nat → Nat → Nat} {mo : Nat} {pr fa : Nat → Nat} {sc ch : Int32} {rc : Nat} {ρ : Nat → Int32} {mt as : Nat → Nat} (hi : iS S) (hm : mo ≤ 16) {A : Nat → Nat} (hk : kpI S (hmo mo) A mt as) :
    zMet G 5 M_Mo_asks [.ref 88] n u ((pm (zu (zu ν 94 (.inl (0, 6, .inl (fun j => hasI (mt j))))) 95 (.inl (0, 6, .inl (fun j => nI (as j))))) s (mk S mo pr fa sc ch rc ρ))) n u (asP ν s S mo pr fa sc ch rc ρ A mt as) := by
  refine z_start (lv := [.ref 88, .retAddr 0, .retAddr 0, .retAddr 0, .retAddr 0]) K_Mo_asks rfl rfl (Nat.le_refl _) (Nat.le_refl _) (Nat.le_of_ble_eq_true rfl) rfl ?_
  refine z_iconst (v := nI 0) (by decide) (pc' := 1) 0 rfl rfl ?_
  refine z_is1 rfl rfl (pc' := 2) 1 rfl rfl ?_
  exact l_Mo_asks2 hi hm hk (S 0 0) 0 (by omega) (fun g hg => absurd hg (Nat.not_lt_zero g))
set_option maxHeartbeats 4000000 in
set_option maxRecDepth 100000 in
theorem l_Mo_kept1 {G : zG} {n u : Nat} {ν : Nat → va_E} {s m f f2 : Nat → Int32} {g : Int32} {Φ : zP} (K : zW G 6 M_Mo_kept 38 [.ref 88, .int g, .int (nI 6)] [] n u (pm (zu (zu ν 94 (.inl (0, 6, .inl (cpN (fun _ => hasI 6) f 6)))) 95 (.inl (0, 6, .inl (cpN (fun _ => nI 0) f2 6)))) s m) n u Φ) : ∀ j k, k + j = 6 →
    zW G 6 M_Mo_kept 12 [.ref 88, .int g, .int (nI k)] [] n u (pm (zu (zu ν 94 (.inl (0, 6, .inl (cpN (fun _ => hasI 6) f k)))) 95 (.inl (0, 6, .inl (cpN (fun _ => nI 0) f2 k)))) s m) n u Φ
  | 0, k, e => by
    obtain rfl : k = 6 := by omega
    refine z_il2 (pc' := 13) 8 rfl rfl ?_
    refine z_bipush (v := nI 6) (by decide) (pc' := 15) 9 rfl rfl ?_
    first | refine z_icmp_geN (pc' := 18) 10 rfl rfl (tgt := 38) rfl (by omega) (by omega) (fun h15 => ?_) (fun h15 => ?_) | refine z_icmp_ge (pc' := 18) 10 rfl rfl (tgt := 38) rfl (fun h15 => ?_) (fun h15 => ?_)
    · exact K
    · exfalso; omega
  | j + 1, k, e => by
    refine z_il2 (pc' := 13) 8 rfl rfl ?_
    refine z_bipush (v := nI 6) (by decide) (pc' := 15) 9 rfl rfl ?_
    first | refine z_icmp_geN (pc' := 18) 10 rfl rfl (tgt := 38) rfl (by omega) (by omega) (fun h15 => ?_) (fun h15 => ?_) | refine z_icmp_ge (pc' := 18) 10 rfl rfl (tgt := 38) rfl (fun h15 => ?_) (fun h15 => ?_)
    · exfalso; omega
    · refine z_al0 (pc' := 19) 11 rfl rfl ?_
      refine z_getf (pc' := 22) 12 rfl rfl f_Mo_26_12 (by first | exact pm_f | exact pm_1 | (rw [pm_o (by decide)]; first | exact zu_s | (rw [zu_n (by decide)]; exact zu_s))) (by rfl) ?_
      refine z_il2 (pc' := 23) 13 rfl rfl ?_
      refine z_iconst (v := (-1)) (by decide) (pc' := 24) 14 rfl rfl ?_
      refine z_iast (pc' := 25) 15 rfl rfl (by first | exact pm_f | exact pm_1 | (rw [pm_o (by decide)]; first | exact zu_s | (rw [zu_n (by decide)]; exact zu_s))) (by omega) (by decide) ?_
      rw [pm_94, show ((-1) : Int32) = (fun _ : Nat => hasI 6) k from rfl, cpN_u]
      refine z_al0 (pc' := 26) 16 rfl rfl ?_
      refine z_getf (pc' := 29) 17 rfl rfl f_Mo_29_12 (by first | exact pm_f | exact pm_1 | (rw [pm_o (by decide)]; first | exact zu_s | (rw [zu_n (by decide)]; exact zu_s))) (by rfl) ?_
      refine z_il2 (pc' := 30) 18 rfl rfl ?_
      refine z_iconst (v := nI 0) (by decide) (pc' := 31) 19 rfl rfl ?_
      refine z_iast (pc' := 32) 20 rfl rfl (by first | exact pm_f | exact pm_1 | (rw [pm_o (by decide)]; first | exact zu_s | (rw [zu_n (by decide)]; exact zu_s))) (by omega) (by decide) ?_
      rw [pm_95, show (nI 0 : Int32) = (fun _ : Nat => nI 0) k from rfl, cpN_u]
      first | refine z_inc2N rfl rfl (pc' := 35) 21 rfl rfl ?_ | refine z_inc2 rfl rfl rfl (pc' := 35) 21 rfl rfl ?_
      refine z_goto 22 rfl (tgt := 12) rfl ?_
      exact l_Mo_kept1 K j (k + 1) (by omega)
set_option maxHeartbeats 4000000 in
set_option maxRecDepth 100000 in
theorem l_Mo_kept2 {G : zG} {n u : Nat} {ν : Nat → va_E} {s : Nat → Int32} {S : Nat → Nat → Nat} {mo : Nat} {pr fa : Nat → Nat} {sc ch : Int32} {rc : Nat} {ρ : Nat → Int32} (hi : iS S) (hm : mo ≤ 16) {g : Nat} (hg : g < S 0 0) {Φ : zP} (K : ∀ mt as : Nat → Nat, Φ (some (.int (nI (cW S (hmo mo) (kpL S (hmo mo) 37 (fun _ => 0)) g)))) (pm (zu (zu ν 94 (.inl (0, 6, .inl (fun j => hasI (mt j))))) 95 (.inl (0, 6, .inl (fun j => nI (as j))))) s (mk S mo pr fa sc ch rc ρ))) : ∀ N (A mt as : Nat → Nat), smN S (hmo mo) A (S 0 0) < N → kpI S (hmo mo) A mt as →
    zW G 6 M_Mo_kept 40 [.ref 88, .int (nI g), .int (nI 1)] [] n u (pm (zu (zu ν 94 (.inl (0, 6, .inl (fun j => hasI (mt j))))) 95 (.inl (0, 6, .inl (fun j => nI (as j))))) s (mk S mo pr fa sc ch rc ρ)) n u Φ
  | 0, A, mt, as, h, _ => absurd h (Nat.not_lt_zero _)
  | N + 1, A, mt, as, h, hk => by
    have hi0 := hi.1
    have hg6 : mt g ≤ 6 := by have := (hk.1 g hg).2.2; have := hi.2.1; omega
    refine z_il2 (pc' := 41) 25 rfl rfl ?_
    refine z_if_eq_f (pc' := 44) 26 rfl rfl (tgt := 52) rfl (by decide) ?_
    refine z_al0 (pc' := 45) 27 rfl rfl ?_
    refine z_callV (pc' := 48) 28 rfl rfl k_Mo_248 (by first | exact pm_f | exact pm_1 | (rw [pm_o (by decide)]; first | exact zu_s | (rw [zu_n (by decide)]; exact zu_s))) (c_Mo_asks hi hm hk) (by decide) (Nat.le_refl _) (Nat.le_refl _) rfl rfl (Nat.le_of_ble_eq_true rfl) (fun r9 μ9 h9 => ?_)
    rcases h9 with ⟨e1, e2, hf⟩ | ⟨e1, A2, mt2, as2, e3, e4, e2⟩
    · subst e1; subst e2
      show zW G 6 M_Mo_kept 48 [.ref 88, .int (nI g), .int (nI 1)] [.int (nI 0)] n u (pm (zu (zu ν 94 (.inl (0, 6, .inl (fun j => hasI (mt j))))) 95 (.inl (0, 6, .inl (fun j => nI (as j))))) s (mk S mo pr fa sc ch rc ρ)) n u Φ
      refine z_is2 rfl rfl (pc' := 49) 29 rfl rfl ?_
      refine z_goto 30 rfl (tgt := 40) rfl ?_
      refine z_il2 (pc' := 41) 25 rfl rfl ?_
      refine z_if_eq_t 26 rfl (tgt := 52) rfl rfl ?_
      refine z_al0 (pc' := 53) 31 rfl rfl ?_
      refine z_getf (pc' := 56) 32 rfl rfl f_Mo_26_12 (by first | exact pm_f | exact pm_1 | (rw [pm_o (by decide)]; first | exact zu_s | (rw [zu_n (by decide)]; exact zu_s))) (by rfl) ?_
      refine z_il1 (pc' := 57) 33 rfl rfl ?_
      refine z_iald (pc' := 58) 34 rfl rfl (by first | exact pm_f | exact pm_1 | (rw [pm_o (by decide)]; first | exact zu_s | (rw [zu_n (by decide)]; exact zu_s))) (by omega) (by decide) ?_
      refine z_callS1 (pc' := 61) 35 rfl rfl k_Mo_100 (c_Mo_orSix hg6) (by decide) (Nat.le_refl _) (Nat.le_refl _) rfl rfl (Nat.le_of_ble_eq_true rfl) ?_
      exact z_ireturn 36 rfl rfl (by first | rfl | exact zbo_nar) rfl rfl (by rw [kpI_end hi hk hf hg]; exact K mt as)
    · subst e1; subst e2
      show zW G 6 M_Mo_kept 48 [.ref 88, .int (nI g), .int (nI 1)] [.int (nI 1)] n u (pm (zu (zu ν 94 (.inl (0, 6, .inl (fun j => hasI (mt2 j))))) 95 (.inl (0, 6, .inl (fun j => nI (as2 j))))) s (mk S mo pr fa sc ch rc ρ)) n u Φ
      refine z_is2 rfl rfl (pc' := 49) 29 rfl rfl ?_
      refine z_goto 30 rfl (tgt := 40) rfl ?_
      exact l_Mo_kept2 hi hm hg K N A2 mt2 as2 (by omega) e3
theorem mK_of94 {μ : Nat → va_E} {s : Nat → Int32} {κ : zκ} (h : mst μ s κ) {S : Nat → Nat → Nat} {mo : Nat} {pr fa : Nat → Nat} {sc ch : Int32} {rc : Nat} {ρ : Nat → Int32} {D : zD6} {w q : Nat → Int32} {r : Int32} (hd : dzM ρ rc D) (hk : iK (S, mo, pr, fa, sc, ch, rc, D)) : mK μ s (r, (S, mo, pr, fa, sc, ch, rc, D)) (some (.int r)) (pm (zu (zu μ 94 (.inl (0, 6, .inl w))) 95 (.inl (0, 6, .inl q))) s (mk S mo pr fa sc ch rc ρ)) := by
  obtain ⟨S0, mo0, pr0, fa0, sc0, ch0, rc0, D0⟩ := κ
  obtain ⟨-, -, ⟨q3, h3⟩, ⟨q4, h4⟩, ⟨q5, h5⟩, ⟨q6, h6⟩, ⟨q7, h7⟩, ⟨q8, h8⟩, -⟩ := h
  refine ⟨rfl, s, sEq_r, ⟨⟨ρ, pm_1, hd⟩, pm_0, ⟨q3, ?_⟩, ⟨q4, ?_⟩, ⟨w, ?_⟩, ⟨q, ?_⟩, ⟨q7, ?_⟩, ⟨q8, ?_⟩, hk⟩, fun i hi => by rw [pm_o (by omega), zu_n (by omega), zu_n (by omega)]⟩
  · rw [pm_o (by decide), zu_n (by decide), zu_n (by decide)]; exact h3
  · rw [pm_o (by decide), zu_n (by decide), zu_n (by decide)]; exact h4
  · rw [pm_o (by decide), zu_n (by decide)]; exact zu_s
  · rw [pm_o (by decide)]; exact zu_s
  · rw [pm_o (by decide), zu_n (by decide), zu_n (by decide)]; exact h7
  · rw [pm_o (by decide), zu_n (by decide), zu_n (by decide)]; exact h8
set_option maxHeartbeats 4000000 in
set_option maxRecDepth 100000 in
theorem c_Mo_kept {G : zG} {n u : Nat} {μ : Nat → va_E} {κ : zκ} {s : Nat → Int32} (h : mst μ s κ) (x : Int32) :
    zMet G 6 M_Mo_kept [.ref 88, .int x] n u μ n u (mK μ s (f_kept κ x)) := by
  obtain ⟨S, mo, pr, fa, sc, ch, rc, D⟩ := κ
  have hst := h
  obtain ⟨⟨ρ, h1, hD⟩, h2, ⟨q93, h93⟩, ⟨q91, h91⟩, ⟨q94, h94⟩, ⟨q95, h95⟩, ⟨q96, h96⟩, ⟨q97, h97⟩, h5⟩ := h
  have hk5 := h5
  obtain ⟨hi, hx, hmo, hrc⟩ := h5
  have hi0 := hi.1
  have hi1 := hi.2.1
  have hi2 := hi.2.2.1
  have hi3 := hi.2.2.2.2.1
  have hm16 : mo ≤ 16 := by omega
  refine z_start (lv := [.ref 88, .int x, .retAddr 0]) K_Mo_kept rfl rfl (Nat.le_refl _) (Nat.le_refl _) (Nat.le_of_ble_eq_true rfl) rfl ?_
  refine z_mu (show μ = pm (zu (zu μ 94 (.inl (0, 6, .inl q94))) 95 (.inl (0, 6, .inl q95))) s (mk S mo pr fa sc ch rc ρ) by rw [zu_id h94, zu_id h95, pm_id h2 h1]) ?_
  refine z_al0 (pc' := 1) 0 rfl rfl ?_
  refine z_il1 (pc' := 2) 1 rfl rfl ?_
  refine z_callV1 (pc' := 5) 2 rfl rfl k_Mo_92 (by first | exact pm_f | exact pm_1 | (rw [pm_o (by decide)]; first | exact zu_s | (rw [zu_n (by decide)]; exact zu_s))) (c_Mo_isGirl hi _) (by decide) (Nat.le_refl _) (Nat.le_refl _) rfl rfl (Nat.le_of_ble_eq_true rfl) ?_
  first | refine z_if_neB (pc' := 8) 3 rfl rfl (tgt := 10) rfl (fun h5 => ?_) (fun h5 => ?_) | refine z_if_neN (pc' := 8) 3 rfl rfl (tgt := 10) rfl (by omega) (fun h5 => ?_) (fun h5 => ?_) | refine z_if_ne (pc' := 8) 3 rfl rfl (tgt := 10) rfl (fun h5 => ?_) (fun h5 => ?_)
  · obtain ⟨g, hg, rfl⟩ := z_in h5 (by omega)
    refine z_iconst (v := nI 0) (by decide) (pc' := 11) 6 rfl rfl ?_
    refine z_is2 rfl rfl (pc' := 12) 7 rfl rfl ?_
    refine z_mu (show _ = pm (zu (zu μ 94 (.inl (0, 6, .inl (cpN (fun _ => hasI 6) q94 0)))) 95 (.inl (0, 6, .inl (cpN (fun _ => nI 0) q95 0)))) s (mk S mo pr fa sc ch rc ρ) from rfl) ?_
    refine l_Mo_kept1 ?_ 6 0 (by omega)
    refine z_ext (a := 94) (N := 6) (fun j => hasI ((fun _ => 6) j)) (show _ = _ from by rw [pm_o (by decide), zu_n (by decide)]; exact zu_s) (fun j hj => if_pos hj) ?_
    rw [pm_94]
    refine z_ext (a := 95) (N := 6) (fun j => nI ((fun _ => 0) j)) (show _ = _ from by rw [pm_o (by decide)]; exact zu_s) (fun j hj => if_pos hj) ?_
    rw [pm_95]
    refine z_iconst (v := nI 1) (by decide) (pc' := 39) 23 rfl rfl ?_
    refine z_is2 rfl rfl (pc' := 40) 24 rfl rfl ?_
    refine l_Mo_kept2 hi hm16 hg (fun mt as => ?_) 37 (fun _ => 0) (fun _ => 6) (fun _ => 0) (kp0_lt hi) kpI_0
    show mK μ s _ _ _; rw [f_kept, if_pos h5, tN_n (by omega)]; exact mK_of94 hst hD hk5
  · refine z_iconst (v := (-1)) (by decide) (pc' := 9) 4 rfl rfl ?_
    exact z_ireturn 5 rfl rfl (by first | rfl | exact zbo_nar) rfl rfl (by show mK μ s _ _ _; rw [f_kept, if_neg h5]; exact mK_of94 hst hD hk5)
