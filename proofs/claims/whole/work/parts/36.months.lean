def isTr (μ : Nat → va_E) : Prop := ∃ (mo cs : Nat) (pr fa q : Nat → Nat), isCr μ 43 mo cs pr fa q
/-- a call that uses the trial too -/
def cKt (μ : Nat → va_E) (p : Int32 × zκ) : zP := fun r μ' => r = some (.int p.1) ∧ cst μ' p.2 ∧ isTr μ' ∧ ∀ i, (i < 5 ∨ (23 < i ∧ i < 43) ∨ 46 < i) → μ' i = μ i
theorem cKt_of {μ : Nat → va_E} {κ : zκ} (h : cst μ κ) {S : Nat → Nat → Nat} {mo cs : Nat} {pr fa q : Nat → Nat} {sc ch : Int32} {r : Int32} {rc : Nat} {D : zD6} {mt ct : Nat} {pt ft qt : Nat → Nat} (hr : rc = κ.2.2.2.2.2.2.1) (hD : D = κ.2.2.2.2.2.2.2) (hk : iK (S, mo, pr, fa, sc, ch, rc, D)) : cKt μ (r, (S, mo, pr, fa, sc, ch, rc, D)) (some (.int r)) (pcr (pcc μ S sc ch mo cs pr fa q) 43 mt ct pt ft qt) := by
  obtain ⟨h1, h2, h3⟩ := cK_of (r := r) (cs := cs) (q := q) h hr hD hk
  refine ⟨rfl, cst_fr h2 (fun i a b => pcr_o (by omega)), ⟨mt, ct, pt, ft, qt, pcr_is⟩, fun i hi => ?_⟩
  rw [pcr_o (by omega)]
  exact h3 i (by omega)
/-! ===== months, one behind another ===== -/
abbrev zT3 : Type := Nat × (Nat → Nat) × (Nat → Nat)
def stp (S : Nat → Nat → Nat) (D : zD6) (act : Nat) (t : zT3) : zT3 := (t.1 + 1, (mon S D t.1 act t.2.1 t.2.2).1, (mon S D t.1 act t.2.1 t.2.2).2.1)
def wor (S : Nat → Nat → Nat) (D : zD6) (act : Nat) (t : zT3) : Nat := (mon S D t.1 act t.2.1 t.2.2).2.2.2.2
def crt (S : Nat → Nat → Nat) (D : zD6) (act : Nat) (t : zT3) : Nat := (mon S D t.1 act t.2.1 t.2.2).2.2.2.1
def rsA (S : Nat → Nat → Nat) (D : zD6) : Nat → Nat → zT3 → Nat
  | 0, a, _ => a
  | j + 1, a, t => rsA S D j (a + wor S D 0 t) (stp S D 0 t)
def crA (S : Nat → Nat → Nat) (D : zD6) (g : Nat) : Nat → Nat → zT3 → Nat
  | 0, a, _ => a
  | j + 1, a, t => crA S D g j (a + crt S D 0 t / 2 ^ g % 2) (stp S D 0 t)
def bkA (S : Nat → Nat → Nat) (D : zD6) (g w : Nat) : Nat → zT3 → Int32
  | 0, _ => -3
  | j + 1, t => if (stp S D 0 t).2.1 g = w then bkA S D g w j (stp S D 0 t) else nI t.1
theorem gs2_bd {S : Nat → Nat → Nat} (hi : iS S) {pr fa : Nat → Nat} {t g us cs wo k : Nat} (hg : g < 6) (hc : cs < 64) (hw : wo ≤ 18 * k) : (gs2 S t g pr fa us cs wo).2.2.2.1 < 64 ∧ (gs2 S t g pr fa us cs wo).2.2.2.2 ≤ 18 * (k + 1) := by
  unfold gs2
  split
  · constructor
    · show cs ||| 2 ^ g < 64
      exact Nat.or_lt_two_pow (n := 6) hc (Nat.pow_lt_pow_right (by decide) hg)
    · show wo + gS S g (pr g) t ≤ 18 * (k + 1)
      have := gn_le (k := S 1 g) (f := S 5 (pr g)) (t := tn (S 4 (pr g)) (S 2 g)) (m := t) (hi.2.2.2.2.2 (pr g)).2.2.2.2.1
      unfold gS
      omega
  · split
    · exact ⟨hc, by show wo ≤ _; omega⟩
    · split
      · exact ⟨hc, by show wo ≤ _; omega⟩
      · exact ⟨hc, by show wo ≤ _; omega⟩
theorem mgo_bd {S : Nat → Nat → Nat} (hi : iS S) {D : zD6} {t act : Nat} : ∀ (j k : Nat) (σ : z5), k + j ≤ S 0 0 → σ.2.2.2.1 < 64 → σ.2.2.2.2 ≤ 18 * k → (mgo S D t act j k σ).2.2.2.1 < 64 ∧ (mgo S D t act j k σ).2.2.2.2 ≤ 18 * (k + j)
  | 0, _, _, _, h, hu => ⟨h, hu⟩
  | j + 1, k, σ, e, h, hu => by
    have h6 := hi.1
    have q : (gst S D t act k σ).2.2.2.1 < 64 ∧ (gst S D t act k σ).2.2.2.2 ≤ 18 * (k + 1) := by
      unfold gst
      split
      · exact ⟨h, by omega⟩
      · exact gs2_bd hi (by omega) h hu
    have r := mgo_bd (D := D) (t := t) (act := act) hi j (k + 1) _ (by omega) q.1 q.2
    rw [show k + (j + 1) = k + 1 + j by omega]
    exact r
theorem crt_lt {S : Nat → Nat → Nat} (hi : iS S) {D : zD6} {act : Nat} {t : zT3} : crt S D act t < 64 := (mgo_bd (D := D) (t := t.1) (act := act) hi (S 0 0) 0 (t.2.1, t.2.2, 0, 0, 0) (by omega) (by show 0 < 64; decide) (Nat.zero_le _)).1
theorem wor_le {S : Nat → Nat → Nat} (hi : iS S) {D : zD6} {act : Nat} {t : zT3} : wor S D act t ≤ 108 := by
  have := (mgo_bd (D := D) (t := t.1) (act := act) hi (S 0 0) 0 (t.2.1, t.2.2, 0, 0, 0) (by omega) (by show 0 < 64; decide) (Nat.zero_le _)).2
  have h6 := hi.1
  show (mgo S D t.1 act (S 0 0) 0 (t.2.1, t.2.2, 0, 0, 0)).2.2.2.2 ≤ 108
  omega
theorem rsA_le {S : Nat → Nat → Nat} (hi : iS S) {D : zD6} : ∀ (j a : Nat) (t : zT3), rsA S D j a t ≤ a + 108 * j
  | 0, a, _ => Nat.le_refl _
  | j + 1, a, t => by
    have := rsA_le hi (D := D) j (a + wor S D 0 t) (stp S D 0 t)
    have h := wor_le hi (D := D) (act := 0) (t := t)
    show rsA S D j (a + wor S D 0 t) (stp S D 0 t) ≤ _
    omega
theorem iX_stp {S : Nat → Nat → Nat} (hi : iS S) {D : zD6} {act : Nat} {t : zT3} (h : iX S t.2.1 t.2.2) : iX S (stp S D act t).2.1 (stp S D act t).2.2 := mon_ok hi h
set_option maxHeartbeats 4000000 in
set_option maxRecDepth 100000 in
theorem c_Cr_copyFrom {G : zG} {n u : Nat} {ν : Nat → va_E} {a b mo cs m0 c0 : Nat} {pr fa qb p0 f0 q0 : Nat → Nat} (hb : isCr ν b mo cs pr fa qb) (hab : b + 3 < a ∨ a + 3 < b) : zMet G 1 M_Cr_copyFrom [.ref a, .ref b] n u (pcr ν a m0 c0 p0 f0 q0) n u (zE none (pcr ν a mo cs pr fa q0)) := by
  obtain ⟨b0, b1, b2, b3⟩ := hb
  refine z_start (lv := [.ref a, .ref b]) K_Cr_copyFrom rfl rfl (Nat.le_refl _) (Nat.le_refl _) (Nat.le_of_ble_eq_true rfl) rfl ?_
  refine z_al0 (pc' := 1) 0 rfl rfl ?_
  refine z_al1 (pc' := 2) 1 rfl rfl ?_
  refine z_getf (pc' := 5) 2 rfl rfl f_Cr_23_4 (by first | exact pcr_0 | exact pcr_1 | exact pcr_2 | exact pcr_3 | (rw [pcr_o (by omega)]; assumption)) (by rfl) ?_
  refine z_putf (pc' := 8) 3 rfl rfl f_Cr_23_4 (by first | exact pcr_0 | exact pcr_1 | exact pcr_2 | exact pcr_3 | (rw [pcr_o (by omega)]; assumption)) rfl rfl (by rfl) (by rfl) ?_
  dsimp only [List.set]
  rw [pcr_s0]
  refine z_al0 (pc' := 9) 4 rfl rfl ?_
  refine z_al1 (pc' := 10) 5 rfl rfl ?_
  refine z_getf (pc' := 13) 6 rfl rfl f_Cr_27_4 (by first | exact pcr_0 | exact pcr_1 | exact pcr_2 | exact pcr_3 | (rw [pcr_o (by omega)]; assumption)) (by rfl) ?_
  refine z_putf (pc' := 16) 7 rfl rfl f_Cr_27_4 (by first | exact pcr_0 | exact pcr_1 | exact pcr_2 | exact pcr_3 | (rw [pcr_o (by omega)]; assumption)) rfl rfl (by rfl) (by rfl) ?_
  dsimp only [List.set]
  rw [pcr_s0]
  refine z_al1 (pc' := 17) 8 rfl rfl ?_
  refine z_getf (pc' := 20) 9 rfl rfl f_Cr_9_4 (by first | exact pcr_0 | exact pcr_1 | exact pcr_2 | exact pcr_3 | (rw [pcr_o (by omega)]; assumption)) (by rfl) ?_
  refine z_iconst (v := nI 0) (by decide) (pc' := 21) 10 rfl rfl ?_
  refine z_al0 (pc' := 22) 11 rfl rfl ?_
  refine z_getf (pc' := 25) 12 rfl rfl f_Cr_9_4 (by first | exact pcr_0 | exact pcr_1 | exact pcr_2 | exact pcr_3 | (rw [pcr_o (by omega)]; assumption)) (by rfl) ?_
  refine z_iconst (v := nI 0) (by decide) (pc' := 26) 13 rfl rfl ?_
  refine z_bipush (v := nI 6) (by decide) (pc' := 28) 14 rfl rfl ?_
  refine z_copy (pc' := 31) 15 rfl rfl (by decide) ky_Cr_30 ky_nat ky_sta ky_ini (by first | exact pcr_0 | exact pcr_1 | exact pcr_2 | exact pcr_3 | (rw [pcr_o (by omega)]; assumption)) (by first | exact pcr_0 | exact pcr_1 | exact pcr_2 | exact pcr_3 | (rw [pcr_o (by omega)]; assumption)) (by decide) (by decide) (by omega) (by omega) (Nat.le_of_ble_eq_true rfl) ?_
  refine z_ext (fun j => nI (pr j)) zu_s (fun j hj => sb_cpy0 hj) ?_
  rw [zu_zu, pcr_s1]
  refine z_al1 (pc' := 32) 16 rfl rfl ?_
  refine z_getf (pc' := 35) 17 rfl rfl f_Cr_15_4 (by first | exact pcr_0 | exact pcr_1 | exact pcr_2 | exact pcr_3 | (rw [pcr_o (by omega)]; assumption)) (by rfl) ?_
  refine z_iconst (v := nI 0) (by decide) (pc' := 36) 18 rfl rfl ?_
  refine z_al0 (pc' := 37) 19 rfl rfl ?_
  refine z_getf (pc' := 40) 20 rfl rfl f_Cr_15_4 (by first | exact pcr_0 | exact pcr_1 | exact pcr_2 | exact pcr_3 | (rw [pcr_o (by omega)]; assumption)) (by rfl) ?_
  refine z_iconst (v := nI 0) (by decide) (pc' := 41) 21 rfl rfl ?_
  refine z_bipush (v := nI 6) (by decide) (pc' := 43) 22 rfl rfl ?_
  refine z_copy (pc' := 46) 23 rfl rfl (by decide) ky_Cr_30 ky_nat ky_sta ky_ini (by first | exact pcr_0 | exact pcr_1 | exact pcr_2 | exact pcr_3 | (rw [pcr_o (by omega)]; assumption)) (by first | exact pcr_0 | exact pcr_1 | exact pcr_2 | exact pcr_3 | (rw [pcr_o (by omega)]; assumption)) (by decide) (by decide) (by omega) (by omega) (Nat.le_of_ble_eq_true rfl) ?_
  refine z_ext (fun j => nI (fa j)) zu_s (fun j hj => sb_cpy0 hj) ?_
  rw [zu_zu, pcr_s2]
  exact z_return 24 rfl rfl rfl rfl (by exact ⟨rfl, rfl⟩)
def cpN (f g : Nat → Int32) (k : Nat) : Nat → Int32 := fun j => if j < k then f j else g j
theorem cpN_u {f g : Nat → Int32} {k : Nat} : upd (cpN f g k) k (f k) = cpN f g (k + 1) := by
  funext j
  by_cases h : j = k
  · subst h; rw [upd_at]; unfold cpN; rw [if_pos (by omega)]
  · rw [upd_no h]; unfold cpN
    by_cases h2 : j < k
    · rw [if_pos h2, if_pos (by omega)]
    · rw [if_neg h2, if_neg (by omega)]
set_option maxHeartbeats 4000000 in
set_option maxRecDepth 100000 in
theorem l_Mo_copyAll {G : zG} {n u : Nat} {ν : Nat → va_E} {a b : Nat} {f g : Nat → Int32} (hab : a ≠ b) (hf : ν a = .inl (0, 618, .inl f)) : ∀ j k, k + j = 618 → zW G 0 M_Mo_copyAll 2 [.ref a, .ref b, .int (nI k)] [] n u (zu ν b (.inl (0, 618, .inl (cpN f g k)))) n u (zE none (zu ν b (.inl (0, 618, .inl f))))
  | 0, k, e => by
    obtain rfl : k = 618 := by omega
    refine z_il2 (pc' := 3) 2 rfl rfl ?_
    refine z_sipush (v := nI 618) (by decide) (pc' := 6) 3 rfl rfl ?_
    first | refine z_icmp_geN (pc' := 9) 4 rfl rfl (tgt := 21) rfl (by omega) (by omega) (fun h6 => ?_) (fun h6 => ?_) | refine z_icmp_ge (pc' := 9) 4 rfl rfl (tgt := 21) rfl (fun h6 => ?_) (fun h6 => ?_)
    · refine z_ext f zu_s (fun j hj => if_pos hj) ?_
      rw [zu_zu]
      exact z_return 13 rfl rfl rfl rfl (by exact ⟨rfl, rfl⟩)
    · exfalso; omega
  | j + 1, k, e => by
    refine z_il2 (pc' := 3) 2 rfl rfl ?_
    refine z_sipush (v := nI 618) (by decide) (pc' := 6) 3 rfl rfl ?_
    first | refine z_icmp_geN (pc' := 9) 4 rfl rfl (tgt := 21) rfl (by omega) (by omega) (fun h6 => ?_) (fun h6 => ?_) | refine z_icmp_ge (pc' := 9) 4 rfl rfl (tgt := 21) rfl (fun h6 => ?_) (fun h6 => ?_)
    · exfalso; omega
    · refine z_al1 (pc' := 10) 5 rfl rfl ?_
      refine z_il2 (pc' := 11) 6 rfl rfl ?_
      refine z_al0 (pc' := 12) 7 rfl rfl ?_
      refine z_il2 (pc' := 13) 8 rfl rfl ?_
      refine z_iald (pc' := 14) 9 rfl rfl (by first | exact zu_s | (rw [zu_n hab]; exact hf)) (by omega) (by decide) ?_
      refine z_iast (pc' := 15) 10 rfl rfl (by first | exact zu_s | (rw [zu_n hab]; exact hf)) (by omega) (by decide) ?_
      rw [cpN_u, zu_zu]
      first | refine z_inc2N rfl rfl (pc' := 18) 11 rfl rfl ?_ | refine z_inc2 rfl rfl rfl (pc' := 18) 11 rfl rfl ?_
      refine z_goto 12 rfl (tgt := 2) rfl ?_
      exact l_Mo_copyAll hab hf j (k + 1) (by omega)
set_option maxHeartbeats 4000000 in
set_option maxRecDepth 100000 in
theorem c_Mo_copyAll {G : zG} {n u : Nat} {ν : Nat → va_E} {a b : Nat} {f g : Nat → Int32} (hab : a ≠ b) (hf : ν a = .inl (0, 618, .inl f)) (hg : ν b = .inl (0, 618, .inl g)) : zMet G 0 M_Mo_copyAll [.ref a, .ref b] n u ν n u (zE none (zu ν b (.inl (0, 618, .inl f)))) := by
  have e : zu ν b (.inl (0, 618, .inl (cpN f g 0))) = ν := zu_id (by rw [hg]; exact congrArg (fun z : Nat → Int32 => (Sum.inl (0, 618, Sum.inl z) : va_E)) (funext fun j => (if_neg (Nat.not_lt_zero j)).symm))
  refine z_start (lv := [.ref a, .ref b, .retAddr 0]) K_Mo_copyAll rfl rfl (Nat.le_refl _) (Nat.le_refl _) (Nat.le_of_ble_eq_true rfl) rfl ?_
  refine z_iconst (v := nI 0) (by decide) (pc' := 1) 0 rfl rfl ?_
  refine z_is2 rfl rfl (pc' := 2) 1 rfl rfl ?_
  refine z_mu e.symm ?_
  exact l_Mo_copyAll hab hf 618 0 (by decide)
theorem pm_w {ν : Nat → va_E} {s m w q f : Nat → Int32} : zu (pm (zu (zu ν 91 (.inl (0, 618, .inl w))) 93 (.inl (1, 100, .inl q))) s m) 91 (.inl (0, 618, .inl f)) = pm (zu (zu ν 91 (.inl (0, 618, .inl f))) 93 (.inl (1, 100, .inl q))) s m := by
  unfold pm
  rw [zu_sw (a := 89) (b := 91) (by decide), zu_sw (a := 88) (b := 91) (by decide), zu_sw (a := 93) (b := 91) (by decide), zu_zu]
set_option maxHeartbeats 4000000 in
set_option maxRecDepth 100000 in
theorem c_Mo_thinks {G : zG} {n u : Nat} {ν : Nat → va_E} {s m w q : Nat → Int32} : zMet G 1 M_Mo_thinks [.ref 88] n u (pm (zu (zu ν 91 (.inl (0, 618, .inl w))) 93 (.inl (1, 100, .inl q))) s m) n u (zE none (pm (zu (zu ν 91 (.inl (0, 618, .inl m))) 93 (.inl (1, 100, .inl q))) s m)) := by
  refine z_start (lv := [.ref 88]) K_Mo_thinks rfl rfl (Nat.le_refl _) (Nat.le_refl _) (Nat.le_of_ble_eq_true rfl) rfl ?_
  refine z_al0 (pc' := 1) 0 rfl rfl ?_
  refine z_getf (pc' := 4) 1 rfl rfl f_Mo_9_12 (by first | exact pm_f | exact pm_1 | (rw [pm_o (by decide)]; first | exact zu_s | (rw [zu_n (by decide)]; first | exact zu_s | (rw [zu_n (by decide)]; assumption)))) (by rfl) ?_
  refine z_al0 (pc' := 5) 2 rfl rfl ?_
  refine z_getf (pc' := 8) 3 rfl rfl f_Mo_16_12 (by first | exact pm_f | exact pm_1 | (rw [pm_o (by decide)]; first | exact zu_s | (rw [zu_n (by decide)]; first | exact zu_s | (rw [zu_n (by decide)]; assumption)))) (by rfl) ?_
  refine z_callS0 (pc' := 11) 4 rfl rfl k_Mo_63 (c_Mo_copyAll (g := w) (by decide) pm_1 (by rw [pm_o (by decide), zu_n (by decide)]; exact zu_s)) (by decide) (Nat.le_refl _) (Nat.le_refl _) rfl rfl (Nat.le_of_ble_eq_true rfl) ?_
  exact z_return 5 rfl rfl rfl rfl (by refine ⟨rfl, ?_⟩; rw [pm_w])
set_option maxHeartbeats 4000000 in
set_option maxRecDepth 100000 in
theorem c_Mo_putsBack {G : zG} {n u : Nat} {ν : Nat → va_E} {s m w q : Nat → Int32} : zMet G 1 M_Mo_putsBack [.ref 88] n u (pm (zu (zu ν 91 (.inl (0, 618, .inl w))) 93 (.inl (1, 100, .inl q))) s m) n u (zE none (pm (zu (zu ν 91 (.inl (0, 618, .inl w))) 93 (.inl (1, 100, .inl q))) s w)) := by
  refine z_start (lv := [.ref 88]) K_Mo_putsBack rfl rfl (Nat.le_refl _) (Nat.le_refl _) (Nat.le_of_ble_eq_true rfl) rfl ?_
  refine z_al0 (pc' := 1) 0 rfl rfl ?_
  refine z_getf (pc' := 4) 1 rfl rfl f_Mo_16_12 (by first | exact pm_f | exact pm_1 | (rw [pm_o (by decide)]; first | exact zu_s | (rw [zu_n (by decide)]; first | exact zu_s | (rw [zu_n (by decide)]; assumption)))) (by rfl) ?_
  refine z_al0 (pc' := 5) 2 rfl rfl ?_
  refine z_getf (pc' := 8) 3 rfl rfl f_Mo_9_12 (by first | exact pm_f | exact pm_1 | (rw [pm_o (by decide)]; first | exact zu_s | (rw [zu_n (by decide)]; first | exact zu_s | (rw [zu_n (by decide)]; assumption)))) (by rfl) ?_
  refine z_callS0 (pc' := 11) 4 rfl rfl k_Mo_63 (c_Mo_copyAll (f := w) (g := m) (by decide) (by rw [pm_o (by decide), zu_n (by decide)]; exact zu_s) pm_1) (by decide) (Nat.le_refl _) (Nat.le_refl _) rfl rfl (Nat.le_of_ble_eq_true rfl) ?_
  exact z_return 5 rfl rfl rfl rfl (by exact ⟨rfl, pm_s1⟩)
set_option maxHeartbeats 4000000 in
set_option maxRecDepth 100000 in
theorem l_Mo_restOf {G : zG} {n u : Nat} {Φ : zP} {ν : Nat → va_E} {s : Nat → Int32} {S : Nat → Nat → Nat} {ch : Int32} {rc : Nat} {ρ w : Nat → Int32} {D : zD6} (hi : iS S) (hD : dzM ρ rc D) {N : Nat} (hN : N < 2 ^ 30) : ∀ j k mo pr fa sc (q : Nat → Int32) v acc, j = min (N - k) (S 0 3 - mo) → k ≤ N → mo ≤ 16 → iX S pr fa →
    (∀ mo' pr' fa' sc' (q' : Nat → Int32) v' i', zW G 6 M_Mo_restOf 30 [.ref 88, .int (nI N), .int (nI (rsA S D j acc (mo, pr, fa))), i'] [] n u (pm (zu (zu ν 91 (.inl (0, 618, .inl w))) 93 (.inl (1, 100, .inl q'))) (un s 14 v') (mk S mo' pr' fa' sc' ch rc ρ)) n u Φ) →
    zW G 6 M_Mo_restOf 4 [.ref 88, .int (nI N), .int (nI acc), .int (nI k)] [] n u (pm (zu (zu ν 91 (.inl (0, 618, .inl w))) 93 (.inl (1, 100, .inl q))) (un s 14 v) (mk S mo pr fa sc ch rc ρ)) n u Φ
  | 0, k, mo, pr, fa, sc, q, v, acc, e, hk, hm, hx, K => by
    have hi3 := hi.2.2.2.2.1
    refine z_il3 (pc' := 5) 4 rfl rfl ?_
    refine z_il1 (pc' := 6) 5 rfl rfl ?_
    first | refine z_icmp_geN (pc' := 9) 6 rfl rfl (tgt := 30) rfl (by omega) (by omega) (fun h6 => ?_) (fun h6 => ?_) | refine z_icmp_ge (pc' := 9) 6 rfl rfl (tgt := 30) rfl (fun h6 => ?_) (fun h6 => ?_)
    · exact K _ _ _ _ _ _ _
    · refine z_al0 (pc' := 10) 7 rfl rfl ?_
      refine z_callV1 (pc' := 13) 8 rfl rfl k_Mo_124 (by first | exact pm_f | exact pm_1 | (rw [pm_o (by decide)]; first | exact zu_s | (rw [zu_n (by decide)]; first | exact zu_s | (rw [zu_n (by decide)]; assumption)))) (c_Mo_isOver hi hm) (by decide) (Nat.le_refl _) (Nat.le_refl _) rfl rfl (Nat.le_of_ble_eq_true rfl) ?_
      first | refine z_if_neB (pc' := 16) 9 rfl rfl (tgt := 30) rfl (fun h13 => ?_) (fun h13 => ?_) | refine z_if_neN (pc' := 16) 9 rfl rfl (tgt := 30) rfl (by omega) (fun h13 => ?_) (fun h13 => ?_) | refine z_if_ne (pc' := 16) 9 rfl rfl (tgt := 30) rfl (fun h13 => ?_) (fun h13 => ?_)
      · exact K _ _ _ _ _ _ _
      · exfalso; omega
  | j + 1, k, mo, pr, fa, sc, q, v, acc, e, hk, hm, hx, K => by
    have hi3 := hi.2.2.2.2.1
    refine z_il3 (pc' := 5) 4 rfl rfl ?_
    refine z_il1 (pc' := 6) 5 rfl rfl ?_
    first | refine z_icmp_geN (pc' := 9) 6 rfl rfl (tgt := 30) rfl (by omega) (by omega) (fun h6 => ?_) (fun h6 => ?_) | refine z_icmp_ge (pc' := 9) 6 rfl rfl (tgt := 30) rfl (fun h6 => ?_) (fun h6 => ?_)
    · exfalso; omega
    · refine z_al0 (pc' := 10) 7 rfl rfl ?_
      refine z_callV1 (pc' := 13) 8 rfl rfl k_Mo_124 (by first | exact pm_f | exact pm_1 | (rw [pm_o (by decide)]; first | exact zu_s | (rw [zu_n (by decide)]; first | exact zu_s | (rw [zu_n (by decide)]; assumption)))) (c_Mo_isOver hi hm) (by decide) (Nat.le_refl _) (Nat.le_refl _) rfl rfl (Nat.le_of_ble_eq_true rfl) ?_
      first | refine z_if_neB (pc' := 16) 9 rfl rfl (tgt := 30) rfl (fun h13 => ?_) (fun h13 => ?_) | refine z_if_neN (pc' := 16) 9 rfl rfl (tgt := 30) rfl (by omega) (fun h13 => ?_) (fun h13 => ?_) | refine z_if_ne (pc' := 16) 9 rfl rfl (tgt := 30) rfl (fun h13 => ?_) (fun h13 => ?_)
      · exfalso; omega
      · refine z_il2 (pc' := 17) 10 rfl rfl ?_
        refine z_al0 (pc' := 18) 11 rfl rfl ?_
        refine z_iconst (v := (-1)) (by decide) (pc' := 19) 12 rfl rfl ?_
        refine z_callVX1 (pc' := 22) 13 rfl rfl k_Mo_227 (by first | exact pm_f | exact pm_1 | (rw [pm_o (by decide)]; first | exact zu_s | (rw [zu_n (by decide)]; first | exact zu_s | (rw [zu_n (by decide)]; assumption)))) (c_Mo_goes (act := 0) hi hD hm (by decide) hx) (by decide) (Nat.le_refl _) (Nat.le_refl _) rfl rfl (Nat.le_of_ble_eq_true rfl) (fun q19 => ?_)
        first | refine z_iaddN (pc' := 23) 14 rfl rfl ?_ | refine z_iadd (pc' := 23) 14 rfl rfl ?_
        refine z_is2 rfl rfl (pc' := 24) 15 rfl rfl ?_
        first | refine z_inc3N rfl rfl (pc' := 27) 16 rfl rfl ?_ | refine z_inc3 rfl rfl rfl (pc' := 27) 16 rfl rfl ?_
        refine z_goto 17 rfl (tgt := 4) rfl ?_
        rw [un_un]
        exact l_Mo_restOf hi hD hN j (k + 1) _ _ _ _ _ _ _ (by omega) (by omega) (by omega) (mon_ok hi hx) K
set_option maxHeartbeats 4000000 in
set_option maxRecDepth 100000 in
theorem c_Mo_restOf {G : zG} {n u : Nat} {ν : Nat → va_E} {s : Nat → Int32} {S : Nat → Nat → Nat} {ch : Int32} {rc : Nat} {ρ w : Nat → Int32} {D : zD6} (hi : iS S) (hD : dzM ρ rc D) {N mo : Nat} {pr fa : Nat → Nat} {sc : Int32} {q : Nat → Int32} (hN : N < 2 ^ 30) (hm : mo ≤ 16) (hx : iX S pr fa) : zMet G 6 M_Mo_restOf [.ref 88, .int (nI N)] n u (pm (zu (zu ν 91 (.inl (0, 618, .inl w))) 93 (.inl (1, 100, .inl q))) s (mk S mo pr fa sc ch rc ρ)) n u (zS (some (.int (nI (rsA S D (min N (S 0 3 - mo)) 0 (mo, pr, fa))))) (fun z : (Nat → Int32) × Int32 => pm (zu (zu ν 91 (.inl (0, 618, .inl w))) 93 (.inl (1, 100, .inl z.1))) (un s 14 z.2) w)) := by
  refine z_start (lv := [.ref 88, .int (nI N), .retAddr 0, .retAddr 0]) K_Mo_restOf rfl rfl (Nat.le_refl _) (Nat.le_refl _) (Nat.le_of_ble_eq_true rfl) rfl ?_
  refine z_iconst (v := nI 0) (by decide) (pc' := 1) 0 rfl rfl ?_
  refine z_is2 rfl rfl (pc' := 2) 1 rfl rfl ?_
  refine z_iconst (v := nI 0) (by decide) (pc' := 3) 2 rfl rfl ?_
  refine z_is3 rfl rfl (pc' := 4) 3 rfl rfl ?_
  refine z_mu (show _ = pm (zu (zu ν 91 (.inl (0, 618, .inl w))) 93 (.inl (1, 100, .inl q))) (un s 14 (s 14)) (mk S mo pr fa sc ch rc ρ) by rw [un_id]) ?_
  refine l_Mo_restOf hi hD hN _ 0 _ _ _ _ _ _ 0 rfl (Nat.zero_le _) hm hx (fun mo1 pr1 fa1 sc1 q1 v1 i1 => ?_)
  refine z_al0 (pc' := 31) 18 rfl rfl ?_
  refine z_callV0 (pc' := 34) 19 rfl rfl k_Mo_200 (by first | exact pm_f | exact pm_1 | (rw [pm_o (by decide)]; first | exact zu_s | (rw [zu_n (by decide)]; first | exact zu_s | (rw [zu_n (by decide)]; assumption)))) (c_Mo_putsBack) (by decide) (Nat.le_refl _) (Nat.le_refl _) rfl rfl (Nat.le_of_ble_eq_true rfl) ?_
  refine z_il2 (pc' := 35) 20 rfl rfl ?_
  exact z_ireturn 21 rfl rfl (by first | rfl | exact zbo_nar) rfl rfl (by exact ⟨rfl, (q1, v1), rfl⟩)
set_option maxHeartbeats 4000000 in
set_option maxRecDepth 100000 in
theorem l_Wb_trialRest {G : zG} {n u : Nat} {Φ : zP} {ν : Nat → va_E} {S : Nat → Nat → Nat} {sc ch : Int32} {mo cs : Nat} {pr fa q : Nat → Nat} {kp : Int32} {ac : Value} {β : Nat → Nat → Nat} {its : Nat → zI} {D : zD6} (hob : isOb ν kp ac) (hi : iS S) (hbk : isBk ν 17 β) (hD : dzB β its D) : ∀ j mt ct pt ft (qt : Nat → Nat) acc, j = S 0 3 - mt → mt ≤ 16 → iX S pt ft →
    (∀ mt' ct' pt' ft' qt' i', zW G 5 M_Wb_trialRest 42 [.ref 4, .int (nI (rsA S D j acc (mt, pt, ft))), i'] [] n u (pcr (pcc ν S sc ch mo cs pr fa q) 43 mt' ct' pt' ft' qt') n u Φ) →
    zW G 5 M_Wb_trialRest 10 [.ref 4, .int (nI acc), .int (nI mt)] [] n u (pcr (pcc ν S sc ch mo cs pr fa q) 43 mt ct pt ft qt) n u Φ
  | 0, mt, ct, pt, ft, qt, acc, e, hm, hx, K => by
    have hi3 := hi.2.2.2.2.1
    unfold isOb at hob
    refine z_il2 (pc' := 11) 6 rfl rfl ?_
    refine z_al0 (pc' := 12) 7 rfl rfl ?_
    refine z_getf (pc' := 15) 8 rfl rfl f_Wb_10_11 (by first | exact pcr_0 | exact pcr_1 | exact pcr_2 | exact pcr_3 | (rw [pcr_o (by decide)]; first | exact pcc_5 | exact pcc_6 | exact pcc_7 | exact pcc_8 | exact pcc_9 | exact pcc_10 | exact pcc_11 | exact pcc_12 | exact pcc_13 | exact pcc_14 | exact pcc_15 | exact pcc_22 | (rw [pcc_o (by decide)]; assumption))) (by rfl) ?_
    refine z_getf (pc' := 18) 9 rfl rfl f_Wb_149_3 (by first | exact pcr_0 | exact pcr_1 | exact pcr_2 | exact pcr_3 | (rw [pcr_o (by decide)]; first | exact pcc_5 | exact pcc_6 | exact pcc_7 | exact pcc_8 | exact pcc_9 | exact pcc_10 | exact pcc_11 | exact pcc_12 | exact pcc_13 | exact pcc_14 | exact pcc_15 | exact pcc_22 | (rw [pcc_o (by decide)]; assumption))) (by rfl) ?_
    first | refine z_icmp_geN (pc' := 21) 10 rfl rfl (tgt := 42) rfl (by omega) (by omega) (fun h18 => ?_) (fun h18 => ?_) | refine z_icmp_ge (pc' := 21) 10 rfl rfl (tgt := 42) rfl (fun h18 => ?_) (fun h18 => ?_)
    · exact K _ _ _ _ _ _
    · exfalso; omega
  | j + 1, mt, ct, pt, ft, qt, acc, e, hm, hx, K => by
    have hi3 := hi.2.2.2.2.1
    have hob0 := hob
    unfold isOb at hob
    refine z_il2 (pc' := 11) 6 rfl rfl ?_
    refine z_al0 (pc' := 12) 7 rfl rfl ?_
    refine z_getf (pc' := 15) 8 rfl rfl f_Wb_10_11 (by first | exact pcr_0 | exact pcr_1 | exact pcr_2 | exact pcr_3 | (rw [pcr_o (by decide)]; first | exact pcc_5 | exact pcc_6 | exact pcc_7 | exact pcc_8 | exact pcc_9 | exact pcc_10 | exact pcc_11 | exact pcc_12 | exact pcc_13 | exact pcc_14 | exact pcc_15 | exact pcc_22 | (rw [pcc_o (by decide)]; assumption))) (by rfl) ?_
    refine z_getf (pc' := 18) 9 rfl rfl f_Wb_149_3 (by first | exact pcr_0 | exact pcr_1 | exact pcr_2 | exact pcr_3 | (rw [pcr_o (by decide)]; first | exact pcc_5 | exact pcc_6 | exact pcc_7 | exact pcc_8 | exact pcc_9 | exact pcc_10 | exact pcc_11 | exact pcc_12 | exact pcc_13 | exact pcc_14 | exact pcc_15 | exact pcc_22 | (rw [pcc_o (by decide)]; assumption))) (by rfl) ?_
    first | refine z_icmp_geN (pc' := 21) 10 rfl rfl (tgt := 42) rfl (by omega) (by omega) (fun h18 => ?_) (fun h18 => ?_) | refine z_icmp_ge (pc' := 21) 10 rfl rfl (tgt := 42) rfl (fun h18 => ?_) (fun h18 => ?_)
    · exfalso; omega
    · refine z_il1 (pc' := 22) 11 rfl rfl ?_
      refine z_al0 (pc' := 23) 12 rfl rfl ?_
      refine z_getf (pc' := 26) 13 rfl rfl f_Wb_22_11 (by first | exact pcr_0 | exact pcr_1 | exact pcr_2 | exact pcr_3 | (rw [pcr_o (by decide)]; first | exact pcc_5 | exact pcc_6 | exact pcc_7 | exact pcc_8 | exact pcc_9 | exact pcc_10 | exact pcc_11 | exact pcc_12 | exact pcc_13 | exact pcc_14 | exact pcc_15 | exact pcc_22 | (rw [pcc_o (by decide)]; assumption))) (by rfl) ?_
      refine z_al0 (pc' := 27) 14 rfl rfl ?_
      refine z_getf (pc' := 30) 15 rfl rfl f_Wb_10_11 (by first | exact pcr_0 | exact pcr_1 | exact pcr_2 | exact pcr_3 | (rw [pcr_o (by decide)]; first | exact pcc_5 | exact pcc_6 | exact pcc_7 | exact pcc_8 | exact pcc_9 | exact pcc_10 | exact pcc_11 | exact pcc_12 | exact pcc_13 | exact pcc_14 | exact pcc_15 | exact pcc_22 | (rw [pcc_o (by decide)]; assumption))) (by rfl) ?_
      refine z_iconst (v := nI 0) (by decide) (pc' := 31) 16 rfl rfl ?_
      refine z_callVX1 (pc' := 34) 17 rfl rfl k_Wb_181 (by first | exact pcr_0 | exact pcr_1 | exact pcr_2 | exact pcr_3 | (rw [pcr_o (by decide)]; first | exact pcc_5 | exact pcc_6 | exact pcc_7 | exact pcc_8 | exact pcc_9 | exact pcc_10 | exact pcc_11 | exact pcc_12 | exact pcc_13 | exact pcc_14 | exact pcc_15 | exact pcc_22 | (rw [pcc_o (by decide)]; assumption))) (c_Cr_passes (act := 0) isCo_pcc hi (Or.inr (by decide)) (isBk_pcc hbk) hD hm (by decide) hx) (by decide) (Nat.le_refl _) (Nat.le_refl _) rfl rfl (Nat.le_of_ble_eq_true rfl) (fun q31 => ?_)
      first | refine z_iaddN (pc' := 35) 18 rfl rfl ?_ | refine z_iadd (pc' := 35) 18 rfl rfl ?_
      refine z_is1 rfl rfl (pc' := 36) 19 rfl rfl ?_
      first | refine z_inc2N rfl rfl (pc' := 39) 20 rfl rfl ?_ | refine z_inc2 rfl rfl rfl (pc' := 39) 20 rfl rfl ?_
      refine z_goto 21 rfl (tgt := 10) rfl ?_
      exact l_Wb_trialRest hob0 hi hbk hD j (mt + 1) _ _ _ _ _ (by omega) (by omega) (mon_ok hi hx) K
set_option maxHeartbeats 4000000 in
set_option maxRecDepth 100000 in
theorem c_Wb_trialRest {G : zG} {n u : Nat} {ν : Nat → va_E} {S : Nat → Nat → Nat} {sc ch : Int32} {mo cs : Nat} {pr fa q : Nat → Nat} {kp : Int32} {ac : Value} {β : Nat → Nat → Nat} {its : Nat → zI} {D : zD6} (hob : isOb ν kp ac) (hi : iS S) (hbk : isBk ν 17 β) (hD : dzB β its D) {mt ct : Nat} {pt ft qt : Nat → Nat} (hm : mt ≤ 16) (hx : iX S pt ft) : zMet G 5 M_Wb_trialRest [.ref 4] n u (pcr (pcc ν S sc ch mo cs pr fa q) 43 mt ct pt ft qt) n u (zS (some (.int (nI (rsA S D (S 0 3 - mt) 0 (mt, pt, ft))))) (fun z : Nat × Nat × (Nat → Nat) × (Nat → Nat) × (Nat → Nat) => (pcr (pcc ν S sc ch mo cs pr fa q) 43 z.1 z.2.1 z.2.2.1 z.2.2.2.1 z.2.2.2.2))) := by
  have hob0 := hob
  unfold isOb at hob
  refine z_start (lv := [.ref 4, .retAddr 0, .retAddr 0]) K_Wb_trialRest rfl rfl (Nat.le_refl _) (Nat.le_refl _) (Nat.le_of_ble_eq_true rfl) rfl ?_
  refine z_iconst (v := nI 0) (by decide) (pc' := 1) 0 rfl rfl ?_
  refine z_is1 rfl rfl (pc' := 2) 1 rfl rfl ?_
  refine z_al0 (pc' := 3) 2 rfl rfl ?_
  refine z_getf (pc' := 6) 3 rfl rfl f_Wb_22_11 (by first | exact pcr_0 | exact pcr_1 | exact pcr_2 | exact pcr_3 | (rw [pcr_o (by decide)]; first | exact pcc_5 | exact pcc_6 | exact pcc_7 | exact pcc_8 | exact pcc_9 | exact pcc_10 | exact pcc_11 | exact pcc_12 | exact pcc_13 | exact pcc_14 | exact pcc_15 | exact pcc_22 | (rw [pcc_o (by decide)]; assumption))) (by rfl) ?_
  refine z_getf (pc' := 9) 4 rfl rfl f_Wb_135_4 (by first | exact pcr_0 | exact pcr_1 | exact pcr_2 | exact pcr_3 | (rw [pcr_o (by decide)]; first | exact pcc_5 | exact pcc_6 | exact pcc_7 | exact pcc_8 | exact pcc_9 | exact pcc_10 | exact pcc_11 | exact pcc_12 | exact pcc_13 | exact pcc_14 | exact pcc_15 | exact pcc_22 | (rw [pcc_o (by decide)]; assumption))) (by rfl) ?_
  refine z_is2 rfl rfl (pc' := 10) 5 rfl rfl ?_
  refine l_Wb_trialRest hob0 hi hbk hD _ _ _ _ _ _ 0 rfl hm hx (fun mt1 ct1 pt1 ft1 qt1 i1 => ?_)
  refine z_il1 (pc' := 43) 22 rfl rfl ?_
  exact z_ireturn 23 rfl rfl (by first | rfl | exact zbo_nar) rfl rfl (by exact ⟨rfl, (mt1, ct1, pt1, ft1, qt1), rfl⟩)
