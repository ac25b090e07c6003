/-! ===== sheets, the reference ===== -/
def rlC (τ : zτ) (c : Nat → Int64) : Prop := ∀ sh i, sh < 4 → i < τ.2.1 sh → c (40 * sh + i) = (τ.2.2 (sh * 40 + i)).toInt64
def isShM (μ : Nat → va_E) (τ : zτ) : Prop := ∃ c : Nat → Int64, μ 99 = .inl (0, 4, .inl (fun j => hdI (τ.1 j))) ∧ μ 100 = .inl (0, 4, .inl (fun j => nI (τ.2.1 j))) ∧ μ 101 = .inl (2, 160, .inr (.inl c)) ∧ rlC τ c ∧ iT τ
def psm (ν : Nat → va_E) (a b : Nat → Nat) (c : Nat → Int64) : Nat → va_E := zu (zu (zu ν 99 (.inl (0, 4, .inl (fun j => hdI (a j))))) 100 (.inl (0, 4, .inl (fun j => nI (b j))))) 101 (.inl (2, 160, .inr (.inl c)))
section PSM
variable {ν : Nat → va_E} {a b : Nat → Nat} {c : Nat → Int64}
theorem psm_99 : psm ν a b c 99 = .inl (0, 4, .inl (fun j => hdI (a j))) := by
  unfold psm
  rw [zu_n (by decide), zu_n (by decide), zu_s]
theorem psm_100 : psm ν a b c 100 = .inl (0, 4, .inl (fun j => nI (b j))) := by
  unfold psm
  rw [zu_n (by decide), zu_s]
theorem psm_101 : psm ν a b c 101 = .inl (2, 160, .inr (.inl c)) := zu_s
theorem psm_o {i : Nat} (h : i < 99 ∨ 101 < i) : psm ν a b c i = ν i := by
  unfold psm
  rw [zu_n (by omega), zu_n (by omega), zu_n (by omega)]
theorem psm_id (h0 : ν 99 = .inl (0, 4, .inl (fun j => hdI (a j)))) (h1 : ν 100 = .inl (0, 4, .inl (fun j => nI (b j)))) (h2 : ν 101 = .inl (2, 160, .inr (.inl c))) : psm ν a b c = ν := by
  unfold psm
  rw [zu_id h0, zu_id h1, zu_id h2]
theorem psm_s99 {x s : Nat} : zu (psm ν a b c) 99 (.inl (0, 4, .inl (upd (fun j => hdI (a j)) x (hdI s)))) = psm ν (un a x s) b c := by
  unfold psm
  rw [zu_sw (a := 101) (b := 99) (by decide), zu_sw (a := 100) (b := 99) (by decide), zu_zu]
  have e : upd (fun j => hdI (a j)) x (hdI s) = fun j => hdI ((un a x s) j) := by
    funext j
    by_cases h : j = x
    · subst h; rw [upd_at, un_s]
    · rw [upd_no h, un_n h]
  rw [e]
theorem psm_s100 {x s : Nat} : zu (psm ν a b c) 100 (.inl (0, 4, .inl (upd (fun j => nI (b j)) x (nI s)))) = psm ν a (un b x s) c := by
  unfold psm
  rw [zu_sw (a := 101) (b := 100) (by decide), zu_zu]
  have e : upd (fun j => nI (b j)) x (nI s) = fun j => nI ((un b x s) j) := by
    funext j
    by_cases h : j = x
    · subst h; rw [upd_at, un_s]
    · rw [upd_no h, un_n h]
  rw [e]
theorem psm_s101 {f : Nat → Int64} : zu (psm ν a b c) 101 (.inl (2, 160, .inr (.inl f))) = psm ν a b f := by
  unfold psm
  rw [zu_zu]
end PSM
def zrL (f : Nat → Int64) (o k : Nat) : Nat → Int64 := fun j => if o ≤ j ∧ j < o + k then 0 else f j
theorem zrL_0 {f : Nat → Int64} {o : Nat} : zrL f o 0 = f := funext fun j => if_neg (by omega)
theorem zrL_u {f : Nat → Int64} {o k : Nat} : vp_updL (zrL f o k) (o + k) 0 = zrL f o (k + 1) := by
  funext i
  by_cases h : i = o + k
  · subst h
    rw [pk_uLs]
    unfold zrL
    rw [if_pos (by omega)]
  · rw [pk_uLn h]
    unfold zrL
    by_cases h2 : o ≤ i ∧ i < o + k
    · rw [if_pos h2, if_pos (by omega)]
    · rw [if_neg h2, if_neg (by omega)]
def mKs (μ : Nat → va_E) (p : Int32 × zτ) : zP := fun r μ' => r = some (.int p.1) ∧ isShM μ' p.2 ∧ ∀ i, (i < 99 ∨ 101 < i) → μ' i = μ i
theorem mKs_of {μ : Nat → va_E} {r : Int32} {a b : Nat → Nat} {it : Nat → Int32} {c : Nat → Int64} (h : iT (a, b, it)) (hr : rlC (a, b, it) c) : mKs μ (r, (a, b, it)) (some (.int r)) (psm μ a b c) := ⟨rfl, ⟨c, psm_99, psm_100, psm_101, hr, h⟩, fun i hi => psm_o hi⟩
theorem rlC_sh {a b : Nat → Nat} {it : Nat → Int32} {c : Nat → Int64} (hT : iT (a, b, it)) (h : rlC (a, b, it) c) {x s z : Nat} (hz : z ≤ 40) : rlC (un a x s, un b x z, zrN it (x * 40) z) (zrL c (40 * x) 40) := fun sh i h4 hi => by
  show zrL c (40 * x) 40 (40 * sh + i) = (zrN it (x * 40) z (sh * 40 + i)).toInt64
  have hi : i < un b x z sh := hi
  by_cases e : sh = x
  · subst e
    rw [un_s] at hi
    unfold zrL zrN
    rw [if_pos (by omega), if_pos (by omega)]
    rfl
  · rw [un_n e] at hi
    have hb : b sh ≤ 40 := (hT sh).2
    unfold zrL zrN
    rw [if_neg (by omega), if_neg (by omega)]
    exact h sh i h4 hi
theorem rlC_w {a b : Nat → Nat} {it : Nat → Int32} {c : Nat → Int64} (hT : iT (a, b, it)) (h : rlC (a, b, it) c) {x i1 : Nat} {w : Int32} (hi1 : i1 < 40) : rlC (a, b, upd it (x * 40 + i1) w) (vp_updL c (40 * x + i1) w.toInt64) := fun sh i h4 hi => by
  show vp_updL c (40 * x + i1) w.toInt64 (40 * sh + i) = (upd it (x * 40 + i1) w (sh * 40 + i)).toInt64
  have hi : i < b sh := hi
  have hb : b sh ≤ 40 := (hT sh).2
  by_cases e : 40 * sh + i = 40 * x + i1
  · rw [e, pk_uLs, show sh * 40 + i = x * 40 + i1 by omega, upd_at]
  · rw [pk_uLn e, upd_no (by omega)]
    exact h sh i h4 hi
theorem sub1_g {x : Int32} {k : Nat} (hk : k ≤ 40) : (nI 0 ≤ x ∧ x ≤ nI k - nI 1) ↔ (0 ≤ x ∧ x < nI k) := by
  have h1 : (nI k - nI 1).toInt = (k : Int) - 1 := pk_sub_toInt (by omega) (by omega)
  have h2 : (nI k).toInt = (k : Int) := nI_toInt (by omega)
  simp only [Int32.lt_iff_toInt_lt, Int32.le_iff_toInt_le, h1, h2, show (nI 0).toInt = 0 from by decide, show (0 : Int32).toInt = 0 from by decide]
  omega
theorem hd_ge {s : Nat} (h : s ≤ 5) : 0 ≤ hdI s ↔ s ≠ 0 := by
  rw [Int32.le_iff_toInt_le, hdI, pk_sub_toInt (by omega) (by decide)]
  show 0 ≤ (s : Int) - 1 ↔ _
  omega
theorem hd_0 {s : Nat} (h : s ≤ 5) : hdI s = 0 ↔ s = 1 := hd_eq (k := 0) h (by decide)
set_option maxHeartbeats 4000000 in
set_option maxRecDepth 100000 in
theorem c_Mo_isFour {G : zG} {n u : Nat} {μ : Nat → va_E} (x : Int32) : zMet G 1 M_Mo_isFour [.int x] n u μ n u (zE (some (.int (zbo (nI 0 ≤ x ∧ x ≤ nI 3)))) μ) := by
  refine z_start (lv := [.int x]) K_Mo_isFour rfl rfl (Nat.le_refl _) (Nat.le_refl _) (Nat.le_of_ble_eq_true rfl) rfl ?_
  refine z_il0 (pc' := 1) 0 rfl rfl ?_
  refine z_iconst (v := nI 0) (by decide) (pc' := 2) 1 rfl rfl ?_
  refine z_iconst (v := nI 3) (by decide) (pc' := 3) 2 rfl rfl ?_
  refine z_callS1 (pc' := 6) 3 rfl rfl k_Mo_67 (c_Mo_in _ _ _) (by decide) (Nat.le_refl _) (Nat.le_refl _) rfl rfl (Nat.le_of_ble_eq_true rfl) ?_
  exact z_ireturn 4 rfl rfl (by first | rfl | exact zbo_nar) rfl rfl (by exact ⟨rfl, rfl⟩)
set_option maxHeartbeats 4000000 in
set_option maxRecDepth 100000 in
theorem l_Mo_sheet {G : zG} {n u : Nat} {Φ : zP} {μ : Nat → va_E} {a b : Nat → Nat} {c : Nat → Int64} {s : Nat → Int32} (hob : μ 88 = mob s) {x1 : Nat} (hx1 : x1 ≤ 3) {y0 z0 : Int32} (K : ∀ i', zW G 2 M_Mo_sheet 90 [.ref 88, .int (nI x1), .int y0, .int z0, i'] [] n u (psm μ a b (zrL c (40 * x1) 40)) n u Φ) : ∀ j k, k + j = 40 →
    zW G 2 M_Mo_sheet 64 [.ref 88, .int (nI x1), .int y0, .int z0, .int (nI k)] [] n u (psm μ a b (zrL c (40 * x1) k)) n u Φ
  | 0, k, e => by
    obtain rfl : k = 40 := by omega
    refine z_il4 (pc' := 66) 37 rfl rfl ?_
    refine z_bipush (v := nI 40) (by decide) (pc' := 68) 38 rfl rfl ?_
    first | refine z_icmp_geN (pc' := 71) 39 rfl rfl (tgt := 90) rfl (by omega) (by omega) (fun h68 => ?_) (fun h68 => ?_) | refine z_icmp_ge (pc' := 71) 39 rfl rfl (tgt := 90) rfl (fun h68 => ?_) (fun h68 => ?_)
    · exact K _
    · exfalso; omega
  | j + 1, k, e => by
    have hob0 := hob
    unfold mob at hob
    refine z_il4 (pc' := 66) 37 rfl rfl ?_
    refine z_bipush (v := nI 40) (by decide) (pc' := 68) 38 rfl rfl ?_
    first | refine z_icmp_geN (pc' := 71) 39 rfl rfl (tgt := 90) rfl (by omega) (by omega) (fun h68 => ?_) (fun h68 => ?_) | refine z_icmp_ge (pc' := 71) 39 rfl rfl (tgt := 90) rfl (fun h68 => ?_) (fun h68 => ?_)
    · exfalso; omega
    · refine z_al0 (pc' := 72) 40 rfl rfl ?_
      refine z_getf (pc' := 75) 41 rfl rfl f_Mo_47_12 (by first | exact psm_99 | exact psm_100 | exact psm_101 | (rw [psm_o (by decide)]; assumption)) (by rfl) ?_
      refine z_bipush (v := nI 40) (by decide) (pc' := 77) 42 rfl rfl ?_
      refine z_il1 (pc' := 78) 43 rfl rfl ?_
      first | refine z_imulN (pc' := 79) 44 rfl rfl ?_ | refine z_imul (pc' := 79) 44 rfl rfl ?_
      refine z_il4 (pc' := 81) 45 rfl rfl ?_
      first | refine z_iaddN (pc' := 82) 46 rfl rfl ?_ | refine z_iadd (pc' := 82) 46 rfl rfl ?_
      refine z_lconst (v := 0) (by decide) (pc' := 83) 47 rfl rfl ?_
      refine z_last (pc' := 84) 48 rfl rfl (by first | exact psm_99 | exact psm_100 | exact psm_101 | (rw [psm_o (by decide)]; assumption)) (by omega) (by decide) ?_
      rw [zrL_u, psm_s101]
      first | refine z_inc4N rfl rfl (pc' := 87) 49 rfl rfl ?_ | refine z_inc4 rfl rfl rfl (pc' := 87) 49 rfl rfl ?_
      refine z_goto 50 rfl (tgt := 64) rfl ?_
      exact l_Mo_sheet hob0 hx1 K j (k + 1) (by omega)
set_option maxHeartbeats 4000000 in
set_option maxRecDepth 100000 in
theorem c_Mo_sheet {G : zG} {n u : Nat} {μ : Nat → va_E} {τ : zτ} {s : Nat → Int32} (h : isShM μ τ) (hob : μ 88 = mob s) (x y v : Int32) :
    zMet G 2 M_Mo_sheet [.ref 88, .int x, .int y, .int v] n u μ n u (mKs μ (f_sheet τ x y v)) := by
  obtain ⟨a, b, it⟩ := τ
  obtain ⟨c, h99, h100, h101, hr, hT⟩ := h
  refine z_start (lv := [.ref 88, .int x, .int y, .int v, .retAddr 0]) K_Mo_sheet rfl rfl (Nat.le_refl _) (Nat.le_refl _) (Nat.le_of_ble_eq_true rfl) rfl ?_
  unfold mob at hob
  refine z_mu (psm_id h99 h100 h101).symm ?_
  refine z_il1 (pc' := 1) 0 rfl rfl ?_
  refine z_callS1 (pc' := 4) 1 rfl rfl k_Mo_310 (c_Mo_isFour _) (by decide) (Nat.le_refl _) (Nat.le_refl _) rfl rfl (Nat.le_of_ble_eq_true rfl) ?_
  first | refine z_if_eqB (pc' := 7) 2 rfl rfl (tgt := 26) rfl (fun h4 => ?_) (fun h4 => ?_) | refine z_if_eqN (pc' := 7) 2 rfl rfl (tgt := 26) rfl (by omega) (fun h4 => ?_) (fun h4 => ?_) | refine z_if_eq (pc' := 7) 2 rfl rfl (tgt := 26) rfl (fun h4 => ?_) (fun h4 => ?_)
  · refine z_iconst (v := (-1)) (by decide) (pc' := 27) 13 rfl rfl ?_
    exact z_ireturn 14 rfl rfl (by first | rfl | exact zbo_nar) rfl rfl (by show mKs μ _ _ _; rw [f_sheet, if_neg (fun z => h4 z.1)]; exact mKs_of (hT) (hr))
  · refine z_il2 (pc' := 8) 3 rfl rfl ?_
    refine z_iconst (v := (-1)) (by decide) (pc' := 9) 4 rfl rfl ?_
    refine z_iconst (v := nI 4) (by decide) (pc' := 10) 5 rfl rfl ?_
    refine z_callS1 (pc' := 13) 6 rfl rfl k_Mo_67 (c_Mo_in _ _ _) (by decide) (Nat.le_refl _) (Nat.le_refl _) rfl rfl (Nat.le_of_ble_eq_true rfl) ?_
    first | refine z_if_eqB (pc' := 16) 7 rfl rfl (tgt := 26) rfl (fun h13 => ?_) (fun h13 => ?_) | refine z_if_eqN (pc' := 16) 7 rfl rfl (tgt := 26) rfl (by omega) (fun h13 => ?_) (fun h13 => ?_) | refine z_if_eq (pc' := 16) 7 rfl rfl (tgt := 26) rfl (fun h13 => ?_) (fun h13 => ?_)
    · refine z_iconst (v := (-1)) (by decide) (pc' := 27) 13 rfl rfl ?_
      exact z_ireturn 14 rfl rfl (by first | rfl | exact zbo_nar) rfl rfl (by show mKs μ _ _ _; rw [f_sheet, if_neg (fun z => h13 z.2)]; exact mKs_of (hT) (hr))
    · refine z_il2 (pc' := 17) 8 rfl rfl ?_
      first | refine z_if_lt (pc' := 20) 9 rfl rfl (tgt := 28) rfl (fun h17 => ?_) (fun h17 => ?_)
      · have hob0 : μ 88 = mob s := hob
        obtain ⟨x1, hx0, hx1, rfl⟩ := z_wi h4 (by decide) (by decide)
        obtain ⟨s1, hs1, rfl⟩ := hd_y h13
        refine z_il2 (pc' := 29) 15 rfl rfl ?_
        refine z_if_lt_t 16 rfl (tgt := 39) rfl h17 ?_
        obtain rfl : s1 = 0 := (hd_lt hs1).mp h17
        refine z_al0 (pc' := 40) 21 rfl rfl ?_
        refine z_getf (pc' := 43) 22 rfl rfl f_Mo_41_12 (by first | exact psm_99 | exact psm_100 | exact psm_101 | (rw [psm_o (by decide)]; assumption)) (by rfl) ?_
        refine z_il1 (pc' := 44) 23 rfl rfl ?_
        refine z_il2 (pc' := 45) 24 rfl rfl ?_
        refine z_iast (pc' := 46) 25 rfl rfl (by first | exact psm_99 | exact psm_100 | exact psm_101 | (rw [psm_o (by decide)]; assumption)) (by omega) (by decide) ?_
        rw [psm_s99]
        refine z_al0 (pc' := 47) 26 rfl rfl ?_
        refine z_getf (pc' := 50) 27 rfl rfl f_Mo_44_12 (by first | exact psm_99 | exact psm_100 | exact psm_101 | (rw [psm_o (by decide)]; assumption)) (by rfl) ?_
        refine z_il1 (pc' := 51) 28 rfl rfl ?_
        refine z_il2 (pc' := 52) 29 rfl rfl ?_
        refine z_if_ge_f (pc' := 55) 30 rfl rfl (tgt := 59) rfl (Int32.not_le.mpr h17) ?_
        refine z_iconst (v := nI 0) (by decide) (pc' := 56) 31 rfl rfl ?_
        refine z_goto 32 rfl (tgt := 60) rfl ?_
        refine z_iast (pc' := 61) 34 rfl rfl (by first | exact psm_99 | exact psm_100 | exact psm_101 | (rw [psm_o (by decide)]; assumption)) (by omega) (by decide) ?_
        rw [psm_s100]
        refine z_iconst (v := nI 0) (by decide) (pc' := 62) 35 rfl rfl ?_
        refine z_is4 rfl rfl (pc' := 64) 36 rfl rfl ?_
        refine z_mu (show _ = psm μ (un a x1 0) (un b x1 0) (zrL c (40 * x1) 0) by rw [zrL_0]) ?_
        refine l_Mo_sheet hob0 hx1 (fun i9 => ?_) 40 0 (Nat.zero_add _)
        refine z_iconst (v := nI 1) (by decide) (pc' := 91) 51 rfl rfl ?_
        exact z_ireturn 52 rfl rfl (by first | rfl | exact zbo_nar) rfl rfl (by show mKs μ _ _ _; rw [f_sheet, if_pos ⟨h4, h13⟩, if_pos (show hdI 0 = -1 from rfl), tN_n (show x1 < 2 ^ 31 by omega)]; exact mKs_of (iT_u (c := it) hT (by omega) (by omega)) (rlC_sh hT hr (by omega)))
      · refine z_il3 (pc' := 21) 10 rfl rfl ?_
        refine z_bipush (v := nI 40) (by decide) (pc' := 23) 11 rfl rfl ?_
        first | refine z_icmp_le (pc' := 26) 12 rfl rfl (tgt := 28) rfl (fun h23 => ?_) (fun h23 => ?_)
        · have hob0 : μ 88 = mob s := hob
          obtain ⟨x1, hx0, hx1, rfl⟩ := z_wi h4 (by decide) (by decide)
          obtain ⟨s1, hs1, rfl⟩ := hd_y h13
          refine z_il2 (pc' := 29) 15 rfl rfl ?_
          refine z_if_lt_f (pc' := 32) 16 rfl rfl (tgt := 39) rfl h17 ?_
          refine z_il3 (pc' := 33) 17 rfl rfl ?_
          first | refine z_if_ge (pc' := 36) 18 rfl rfl (tgt := 39) rfl (fun h33 => ?_) (fun h33 => ?_)
          · obtain ⟨z9, hz9, rfl⟩ : ∃ z9, z9 ≤ 40 ∧ v = nI z9 := by
              obtain ⟨z9, _, q1, q2⟩ := z_wi (a := 0) (b := 40) ⟨h33, h23⟩ (by decide) (by decide)
              exact ⟨z9, q1, q2⟩
            have hs0 : s1 ≠ 0 := fun z => h17 ((hd_lt hs1).mpr z)
            refine z_al0 (pc' := 40) 21 rfl rfl ?_
            refine z_getf (pc' := 43) 22 rfl rfl f_Mo_41_12 (by first | exact psm_99 | exact psm_100 | exact psm_101 | (rw [psm_o (by decide)]; assumption)) (by rfl) ?_
            refine z_il1 (pc' := 44) 23 rfl rfl ?_
            refine z_il2 (pc' := 45) 24 rfl rfl ?_
            refine z_iast (pc' := 46) 25 rfl rfl (by first | exact psm_99 | exact psm_100 | exact psm_101 | (rw [psm_o (by decide)]; assumption)) (by omega) (by decide) ?_
            rw [psm_s99]
            refine z_al0 (pc' := 47) 26 rfl rfl ?_
            refine z_getf (pc' := 50) 27 rfl rfl f_Mo_44_12 (by first | exact psm_99 | exact psm_100 | exact psm_101 | (rw [psm_o (by decide)]; assumption)) (by rfl) ?_
            refine z_il1 (pc' := 51) 28 rfl rfl ?_
            refine z_il2 (pc' := 52) 29 rfl rfl ?_
            refine z_if_ge_t 30 rfl (tgt := 59) rfl (Int32.not_lt.mp h17) ?_
            refine z_il3 (pc' := 60) 33 rfl rfl ?_
            refine z_iast (pc' := 61) 34 rfl rfl (by first | exact psm_99 | exact psm_100 | exact psm_101 | (rw [psm_o (by decide)]; assumption)) (by omega) (by decide) ?_
            rw [psm_s100]
            refine z_iconst (v := nI 0) (by decide) (pc' := 62) 35 rfl rfl ?_
            refine z_is4 rfl rfl (pc' := 64) 36 rfl rfl ?_
            refine z_mu (show _ = psm μ (un a x1 s1) (un b x1 z9) (zrL c (40 * x1) 0) by rw [zrL_0]) ?_
            refine l_Mo_sheet hob0 hx1 (fun i9 => ?_) 40 0 (Nat.zero_add _)
            refine z_iconst (v := nI 1) (by decide) (pc' := 91) 51 rfl rfl ?_
            exact z_ireturn 52 rfl rfl (by first | rfl | exact zbo_nar) rfl rfl (by show mKs μ _ _ _; rw [f_sheet, if_pos ⟨h4, h13⟩, if_neg (fun z => h17 (by rw [z]; decide)), if_pos h23, if_pos h33, show tN (hdI s1) = s1 - 1 from hd_tN hs0 hs1, show s1 - 1 + 1 = s1 by omega, tN_n (show z9 < 2 ^ 31 by omega), tN_n (show x1 < 2 ^ 31 by omega)]; exact mKs_of (iT_u (c := it) hT (by omega) (by omega)) (rlC_sh hT hr (by omega)))
          · refine z_bipush (v := (-14)) (by decide) (pc' := 38) 19 rfl rfl ?_
            exact z_ireturn 20 rfl rfl (by first | rfl | exact zbo_nar) rfl rfl (by show mKs μ _ _ _; rw [f_sheet, if_pos ⟨h4, h13⟩, if_neg (fun z => h17 (by rw [z]; decide)), if_pos h23, if_neg h33]; exact mKs_of (hT) (hr))
        · refine z_iconst (v := (-1)) (by decide) (pc' := 27) 13 rfl rfl ?_
          exact z_ireturn 14 rfl rfl (by first | rfl | exact zbo_nar) rfl rfl (by show mKs μ _ _ _; rw [f_sheet, if_pos ⟨h4, h13⟩, if_neg (fun z => h17 (by rw [z]; decide)), if_neg h23]; exact mKs_of (hT) (hr))
theorem z_tl {G : zG} {d : Nat} {M : zM} {pc : Nat} {lv st : List Value} {n u : Nat} {μ : Nat → va_E} {nF uF : Nat} {Φ : zP} {x y : Int64} (e : x = y) (kk : zW G d M pc lv (.long y :: st) n u μ nF uF Φ) : zW G d M pc lv (.long x :: st) n u μ nF uF Φ := by
  subst e
  exact kk
set_option maxHeartbeats 4000000 in
set_option maxRecDepth 100000 in
theorem c_Mo_write {G : zG} {n u : Nat} {μ : Nat → va_E} {τ : zτ} {s : Nat → Int32} (h : isShM μ τ) (hob : μ 88 = mob s) (x i v : Int32) :
    zMet G 2 M_Mo_write [.ref 88, .int x, .int i, .int v] n u μ n u (mKs μ (f_write τ x i v)) := by
  obtain ⟨a, b, it⟩ := τ
  obtain ⟨c, h99, h100, h101, hr, hT⟩ := h
  refine z_start (lv := [.ref 88, .int x, .int i, .int v, .retAddr 0]) K_Mo_write rfl rfl (Nat.le_refl _) (Nat.le_refl _) (Nat.le_of_ble_eq_true rfl) rfl ?_
  unfold mob at hob
  refine z_mu (psm_id h99 h100 h101).symm ?_
  refine z_il1 (pc' := 1) 0 rfl rfl ?_
  refine z_callS1 (pc' := 4) 1 rfl rfl k_Mo_310 (c_Mo_isFour _) (by decide) (Nat.le_refl _) (Nat.le_refl _) rfl rfl (Nat.le_of_ble_eq_true rfl) ?_
  first | refine z_if_neB (pc' := 7) 2 rfl rfl (tgt := 9) rfl (fun h4 => ?_) (fun h4 => ?_) | refine z_if_neN (pc' := 7) 2 rfl rfl (tgt := 9) rfl (by omega) (fun h4 => ?_) (fun h4 => ?_) | refine z_if_ne (pc' := 7) 2 rfl rfl (tgt := 9) rfl (fun h4 => ?_) (fun h4 => ?_)
  · obtain ⟨x1, hx0, hx1, rfl⟩ := z_wi h4 (by decide) (by decide)
    refine z_al0 (pc' := 10) 5 rfl rfl ?_
    refine z_getf (pc' := 13) 6 rfl rfl f_Mo_41_12 (by first | exact psm_99 | exact psm_100 | exact psm_101 | (rw [psm_o (by decide)]; assumption)) (by rfl) ?_
    refine z_il1 (pc' := 14) 7 rfl rfl ?_
    refine z_iald (pc' := 15) 8 rfl rfl (by first | exact psm_99 | exact psm_100 | exact psm_101 | (rw [psm_o (by decide)]; assumption)) (by omega) (by decide) ?_
    first | refine z_if_ge (pc' := 18) 9 rfl rfl (tgt := 21) rfl (fun h15 => ?_) (fun h15 => ?_)
    · refine z_il2 (pc' := 22) 12 rfl rfl ?_
      refine z_iconst (v := nI 0) (by decide) (pc' := 23) 13 rfl rfl ?_
      refine z_al0 (pc' := 24) 14 rfl rfl ?_
      refine z_getf (pc' := 27) 15 rfl rfl f_Mo_44_12 (by first | exact psm_99 | exact psm_100 | exact psm_101 | (rw [psm_o (by decide)]; assumption)) (by rfl) ?_
      refine z_il1 (pc' := 28) 16 rfl rfl ?_
      refine z_iald (pc' := 29) 17 rfl rfl (by first | exact psm_99 | exact psm_100 | exact psm_101 | (rw [psm_o (by decide)]; assumption)) (by omega) (by decide) ?_
      refine z_iconst (v := nI 1) (by decide) (pc' := 30) 18 rfl rfl ?_
      refine z_isub (pc' := 31) 19 rfl rfl ?_
      refine z_callS1 (pc' := 34) 20 rfl rfl k_Mo_67 (c_Mo_in _ _ _) (by decide) (Nat.le_refl _) (Nat.le_refl _) rfl rfl (Nat.le_of_ble_eq_true rfl) ?_
      first | refine z_if_neB (pc' := 37) 21 rfl rfl (tgt := 40) rfl (fun h34 => ?_) (fun h34 => ?_) | refine z_if_neN (pc' := 37) 21 rfl rfl (tgt := 40) rfl (by omega) (fun h34 => ?_) (fun h34 => ?_) | refine z_if_ne (pc' := 37) 21 rfl rfl (tgt := 40) rfl (fun h34 => ?_) (fun h34 => ?_)
      · have hb40 : b x1 ≤ 40 := (hT x1).2
        obtain ⟨i1, hi1, rfl⟩ := z_in ((sub1_g (hT x1).2).mp h34) (by show b x1 < 2 ^ 31; omega)
        have hi40 : i1 < 40 := Nat.lt_of_lt_of_le hi1 hb40
        refine z_al0 (pc' := 41) 24 rfl rfl ?_
        refine z_getf (pc' := 44) 25 rfl rfl f_Mo_41_12 (by first | exact psm_99 | exact psm_100 | exact psm_101 | (rw [psm_o (by decide)]; assumption)) (by rfl) ?_
        refine z_il1 (pc' := 45) 26 rfl rfl ?_
        refine z_iald (pc' := 46) 27 rfl rfl (by first | exact psm_99 | exact psm_100 | exact psm_101 | (rw [psm_o (by decide)]; assumption)) (by omega) (by decide) ?_
        refine z_is4 rfl rfl (pc' := 48) 28 rfl rfl ?_
        refine z_al0 (pc' := 49) 29 rfl rfl ?_
        refine z_getf (pc' := 52) 30 rfl rfl f_Mo_47_12 (by first | exact psm_99 | exact psm_100 | exact psm_101 | (rw [psm_o (by decide)]; assumption)) (by rfl) ?_
        refine z_bipush (v := nI 40) (by decide) (pc' := 54) 31 rfl rfl ?_
        refine z_il1 (pc' := 55) 32 rfl rfl ?_
        first | refine z_imulN (pc' := 56) 33 rfl rfl ?_ | refine z_imul (pc' := 56) 33 rfl rfl ?_
        refine z_il2 (pc' := 57) 34 rfl rfl ?_
        first | refine z_iaddN (pc' := 58) 35 rfl rfl ?_ | refine z_iadd (pc' := 58) 35 rfl rfl ?_
        refine z_il4 (pc' := 60) 36 rfl rfl ?_
        first | refine z_if_ne (pc' := 63) 37 rfl rfl (tgt := 69) rfl (fun h60 => ?_) (fun h60 => ?_)
        · refine z_il4 (pc' := 71) 42 rfl rfl ?_
          refine z_iconst (v := nI 1) (by decide) (pc' := 72) 43 rfl rfl ?_
          first | refine z_icmp_ne (pc' := 75) 44 rfl rfl (tgt := 81) rfl (fun h72 => ?_) (fun h72 => ?_)
          · refine z_il4 (pc' := 83) 49 rfl rfl ?_
            refine z_iconst (v := nI 4) (by decide) (pc' := 84) 50 rfl rfl ?_
            first | refine z_icmp_ne (pc' := 87) 51 rfl rfl (tgt := 99) rfl (fun h84 => ?_) (fun h84 => ?_)
            · refine z_il3 (pc' := 100) 58 rfl rfl ?_
              refine z_i2l (pc' := 101) 59 rfl rfl ?_
              refine z_last (pc' := 102) 60 rfl rfl (by first | exact psm_99 | exact psm_100 | exact psm_101 | (rw [psm_o (by decide)]; assumption)) (by omega) (by decide) ?_
              rw [psm_s101]
              
              refine z_iconst (v := nI 1) (by decide) (pc' := 103) 61 rfl rfl ?_
              exact z_ireturn 62 rfl rfl (by first | rfl | exact zbo_nar) rfl rfl (by show mKs μ _ _ _; rw [f_write, if_pos h4, tN_n (show x1 < 2 ^ 31 by omega), if_neg ((hd_ge (hT x1).1).mp h15), if_pos ((sub1_g (hT x1).2).mp h34), tN_n (show i1 < 2 ^ 31 by omega), show nar (a x1) v = v by rw [nar, if_neg (fun z => h60 ((hd_0 (hT x1).1).mpr z)), if_neg (fun z => h72 ((hd_eq (k := 1) (hT x1).1 (by decide)).mpr z)), if_neg (fun z => h84 ((hd_eq (k := 4) (hT x1).1 (by decide)).mpr z))]]; exact mKs_of (fun j => hT j) (rlC_w hT hr hi40))
            · refine z_il3 (pc' := 88) 52 rfl rfl ?_
              first | refine z_if_eq (pc' := 91) 53 rfl rfl (tgt := 95) rfl (fun h88 => ?_) (fun h88 => ?_)
              · refine z_lconst (v := 0) (by decide) (pc' := 96) 56 rfl rfl ?_
                refine z_tl (show (0 : Int64) = (nI 0).toInt64 by decide +kernel) ?_
                refine z_goto 57 rfl (tgt := 101) rfl ?_
                refine z_last (pc' := 102) 60 rfl rfl (by first | exact psm_99 | exact psm_100 | exact psm_101 | (rw [psm_o (by decide)]; assumption)) (by omega) (by decide) ?_
                rw [psm_s101]
                
                refine z_iconst (v := nI 1) (by decide) (pc' := 103) 61 rfl rfl ?_
                exact z_ireturn 62 rfl rfl (by first | rfl | exact zbo_nar) rfl rfl (by show mKs μ _ _ _; rw [f_write, if_pos h4, tN_n (show x1 < 2 ^ 31 by omega), if_neg ((hd_ge (hT x1).1).mp h15), if_pos ((sub1_g (hT x1).2).mp h34), tN_n (show i1 < 2 ^ 31 by omega), show nar (a x1) v = nI 0 by rw [nar, if_neg (fun z => h60 ((hd_0 (hT x1).1).mpr z)), if_neg (fun z => h72 ((hd_eq (k := 1) (hT x1).1 (by decide)).mpr z)), if_pos ((hd_eq (k := 4) (hT x1).1 (by decide)).mp h84), if_pos h88]]; exact mKs_of (fun j => hT j) (rlC_w hT hr hi40))
              · refine z_lconst (v := 1) (by decide) (pc' := 92) 54 rfl rfl ?_
                refine z_tl (show (1 : Int64) = (nI 1).toInt64 by decide +kernel) ?_
                refine z_goto 55 rfl (tgt := 101) rfl ?_
                refine z_last (pc' := 102) 60 rfl rfl (by first | exact psm_99 | exact psm_100 | exact psm_101 | (rw [psm_o (by decide)]; assumption)) (by omega) (by decide) ?_
                rw [psm_s101]
                
                refine z_iconst (v := nI 1) (by decide) (pc' := 103) 61 rfl rfl ?_
                exact z_ireturn 62 rfl rfl (by first | rfl | exact zbo_nar) rfl rfl (by show mKs μ _ _ _; rw [f_write, if_pos h4, tN_n (show x1 < 2 ^ 31 by omega), if_neg ((hd_ge (hT x1).1).mp h15), if_pos ((sub1_g (hT x1).2).mp h34), tN_n (show i1 < 2 ^ 31 by omega), show nar (a x1) v = nI 1 by rw [nar, if_neg (fun z => h60 ((hd_0 (hT x1).1).mpr z)), if_neg (fun z => h72 ((hd_eq (k := 1) (hT x1).1 (by decide)).mpr z)), if_pos ((hd_eq (k := 4) (hT x1).1 (by decide)).mp h84), if_neg h88]]; exact mKs_of (fun j => hT j) (rlC_w hT hr hi40))
          · refine z_il3 (pc' := 76) 45 rfl rfl ?_
            refine z_i2s (pc' := 77) 46 rfl rfl ?_
            refine z_i2l (pc' := 78) 47 rfl rfl ?_
            refine z_goto 48 rfl (tgt := 101) rfl ?_
            refine z_last (pc' := 102) 60 rfl rfl (by first | exact psm_99 | exact psm_100 | exact psm_101 | (rw [psm_o (by decide)]; assumption)) (by omega) (by decide) ?_
            rw [psm_s101]
            
            refine z_iconst (v := nI 1) (by decide) (pc' := 103) 61 rfl rfl ?_
            exact z_ireturn 62 rfl rfl (by first | rfl | exact zbo_nar) rfl rfl (by show mKs μ _ _ _; rw [f_write, if_pos h4, tN_n (show x1 < 2 ^ 31 by omega), if_neg ((hd_ge (hT x1).1).mp h15), if_pos ((sub1_g (hT x1).2).mp h34), tN_n (show i1 < 2 ^ 31 by omega), show nar (a x1) v = v.toInt16.toInt32 by rw [nar, if_neg (fun z => h60 ((hd_0 (hT x1).1).mpr z)), if_pos ((hd_eq (k := 1) (hT x1).1 (by decide)).mp h72)]]; exact mKs_of (fun j => hT j) (rlC_w hT hr hi40))
        · refine z_il3 (pc' := 64) 38 rfl rfl ?_
          refine z_i2b (pc' := 65) 39 rfl rfl ?_
          refine z_i2l (pc' := 66) 40 rfl rfl ?_
          refine z_goto 41 rfl (tgt := 101) rfl ?_
          refine z_last (pc' := 102) 60 rfl rfl (by first | exact psm_99 | exact psm_100 | exact psm_101 | (rw [psm_o (by decide)]; assumption)) (by omega) (by decide) ?_
          rw [psm_s101]
          
          refine z_iconst (v := nI 1) (by decide) (pc' := 103) 61 rfl rfl ?_
          exact z_ireturn 62 rfl rfl (by first | rfl | exact zbo_nar) rfl rfl (by show mKs μ _ _ _; rw [f_write, if_pos h4, tN_n (show x1 < 2 ^ 31 by omega), if_neg ((hd_ge (hT x1).1).mp h15), if_pos ((sub1_g (hT x1).2).mp h34), tN_n (show i1 < 2 ^ 31 by omega), show nar (a x1) v = v.toInt8.toInt32 from if_pos ((hd_0 (hT x1).1).mp h60)]; exact mKs_of (fun j => hT j) (rlC_w hT hr hi40))
      · refine z_bipush (v := (-12)) (by decide) (pc' := 39) 22 rfl rfl ?_
        exact z_ireturn 23 rfl rfl (by first | rfl | exact zbo_nar) rfl rfl (by show mKs μ _ _ _; rw [f_write, if_pos h4, tN_n (show x1 < 2 ^ 31 by omega), if_neg ((hd_ge (hT x1).1).mp h15), if_neg (fun z => h34 ((sub1_g (hT x1).2).mpr z))]; exact mKs_of (hT) (hr))
    · refine z_bipush (v := (-11)) (by decide) (pc' := 20) 10 rfl rfl ?_
      exact z_ireturn 11 rfl rfl (by first | rfl | exact zbo_nar) rfl rfl (by show mKs μ _ _ _; rw [f_write, if_pos h4, tN_n (show x1 < 2 ^ 31 by omega), if_pos (Classical.byContradiction (fun z => h15 ((hd_ge (hT x1).1).mpr z)))]; exact mKs_of (hT) (hr))
  · refine z_iconst (v := (-1)) (by decide) (pc' := 8) 3 rfl rfl ?_
    exact z_ireturn 4 rfl rfl (by first | rfl | exact zbo_nar) rfl rfl (by show mKs μ _ _ _; rw [f_write, if_neg h4]; exact mKs_of (hT) (hr))
set_option maxHeartbeats 4000000 in
set_option maxRecDepth 100000 in
theorem c_Mo_item {G : zG} {n u : Nat} {μ : Nat → va_E} {τ : zτ} {s : Nat → Int32} (h : isShM μ τ) (hob : μ 88 = mob s) (x y v : Int32) :
    zMet G 2 M_Mo_item [.ref 88, .int x, .int y, .int v] n u μ n u (mKs μ (f_item τ x y v, τ)) := by
  obtain ⟨a, b, it⟩ := τ
  obtain ⟨c, h99, h100, h101, hr, hT⟩ := h
  refine z_start (lv := [.ref 88, .int x, .int y, .int v]) K_Mo_item rfl rfl (Nat.le_refl _) (Nat.le_refl _) (Nat.le_of_ble_eq_true rfl) rfl ?_
  unfold mob at hob
  refine z_mu (psm_id h99 h100 h101).symm ?_
  refine z_il1 (pc' := 1) 0 rfl rfl ?_
  refine z_callS1 (pc' := 4) 1 rfl rfl k_Mo_310 (c_Mo_isFour _) (by decide) (Nat.le_refl _) (Nat.le_refl _) rfl rfl (Nat.le_of_ble_eq_true rfl) ?_
  first | refine z_if_eqB (pc' := 7) 2 rfl rfl (tgt := 16) rfl (fun h4 => ?_) (fun h4 => ?_) | refine z_if_eqN (pc' := 7) 2 rfl rfl (tgt := 16) rfl (by omega) (fun h4 => ?_) (fun h4 => ?_) | refine z_if_eq (pc' := 7) 2 rfl rfl (tgt := 16) rfl (fun h4 => ?_) (fun h4 => ?_)
  · refine z_iconst (v := (-1)) (by decide) (pc' := 17) 8 rfl rfl ?_
    exact z_ireturn 9 rfl rfl (by first | rfl | exact zbo_nar) rfl rfl (by show mKs μ _ _ _; rw [f_item, if_neg (fun z => h4 z.1)]; exact mKs_of (hT) (hr))
  · refine z_il2 (pc' := 8) 3 rfl rfl ?_
    refine z_iconst (v := nI 0) (by decide) (pc' := 9) 4 rfl rfl ?_
    refine z_iconst (v := nI 4) (by decide) (pc' := 10) 5 rfl rfl ?_
    refine z_callS1 (pc' := 13) 6 rfl rfl k_Mo_67 (c_Mo_in _ _ _) (by decide) (Nat.le_refl _) (Nat.le_refl _) rfl rfl (Nat.le_of_ble_eq_true rfl) ?_
    first | refine z_if_neB (pc' := 16) 7 rfl rfl (tgt := 18) rfl (fun h13 => ?_) (fun h13 => ?_) | refine z_if_neN (pc' := 16) 7 rfl rfl (tgt := 18) rfl (by omega) (fun h13 => ?_) (fun h13 => ?_) | refine z_if_ne (pc' := 16) 7 rfl rfl (tgt := 18) rfl (fun h13 => ?_) (fun h13 => ?_)
    · obtain ⟨x1, hx0, hx1, rfl⟩ := z_wi h4 (by decide) (by decide)
      obtain ⟨y1, hy0, hy1, rfl⟩ := z_wi h13 (by decide) (by decide)
      refine z_al0 (pc' := 19) 10 rfl rfl ?_
      refine z_getf (pc' := 22) 11 rfl rfl f_Mo_41_12 (by first | exact psm_99 | exact psm_100 | exact psm_101 | (rw [psm_o (by decide)]; assumption)) (by rfl) ?_
      refine z_il1 (pc' := 23) 12 rfl rfl ?_
      refine z_iald (pc' := 24) 13 rfl rfl (by first | exact psm_99 | exact psm_100 | exact psm_101 | (rw [psm_o (by decide)]; assumption)) (by omega) (by decide) ?_
      first | refine z_if_ge (pc' := 27) 14 rfl rfl (tgt := 30) rfl (fun h24 => ?_) (fun h24 => ?_)
      · refine z_al0 (pc' := 31) 17 rfl rfl ?_
        refine z_getf (pc' := 34) 18 rfl rfl f_Mo_41_12 (by first | exact psm_99 | exact psm_100 | exact psm_101 | (rw [psm_o (by decide)]; assumption)) (by rfl) ?_
        refine z_il1 (pc' := 35) 19 rfl rfl ?_
        refine z_iald (pc' := 36) 20 rfl rfl (by first | exact psm_99 | exact psm_100 | exact psm_101 | (rw [psm_o (by decide)]; assumption)) (by omega) (by decide) ?_
        refine z_il2 (pc' := 37) 21 rfl rfl ?_
        first | refine z_icmp_eq (pc' := 40) 22 rfl rfl (tgt := 43) rfl (fun h37 => ?_) (fun h37 => ?_)
        · refine z_il3 (pc' := 44) 25 rfl rfl ?_
          refine z_iconst (v := nI 0) (by decide) (pc' := 45) 26 rfl rfl ?_
          refine z_al0 (pc' := 46) 27 rfl rfl ?_
          refine z_getf (pc' := 49) 28 rfl rfl f_Mo_44_12 (by first | exact psm_99 | exact psm_100 | exact psm_101 | (rw [psm_o (by decide)]; assumption)) (by rfl) ?_
          refine z_il1 (pc' := 50) 29 rfl rfl ?_
          refine z_iald (pc' := 51) 30 rfl rfl (by first | exact psm_99 | exact psm_100 | exact psm_101 | (rw [psm_o (by decide)]; assumption)) (by omega) (by decide) ?_
          refine z_iconst (v := nI 1) (by decide) (pc' := 52) 31 rfl rfl ?_
          refine z_isub (pc' := 53) 32 rfl rfl ?_
          refine z_callS1 (pc' := 56) 33 rfl rfl k_Mo_67 (c_Mo_in _ _ _) (by decide) (Nat.le_refl _) (Nat.le_refl _) rfl rfl (Nat.le_of_ble_eq_true rfl) ?_
          first | refine z_if_eqB (pc' := 59) 34 rfl rfl (tgt := 74) rfl (fun h56 => ?_) (fun h56 => ?_) | refine z_if_eqN (pc' := 59) 34 rfl rfl (tgt := 74) rfl (by omega) (fun h56 => ?_) (fun h56 => ?_) | refine z_if_eq (pc' := 59) 34 rfl rfl (tgt := 74) rfl (fun h56 => ?_) (fun h56 => ?_)
          · refine z_bipush (v := (-12)) (by decide) (pc' := 76) 45 rfl rfl ?_
            exact z_ireturn 46 rfl rfl (by first | rfl | exact zbo_nar) rfl rfl (by show mKs μ _ _ _; rw [f_item, if_pos ⟨h4, h13⟩, tN_n (show x1 < 2 ^ 31 by omega), tN_n (show y1 < 2 ^ 31 by omega), if_neg ((hd_ge (hT x1).1).mp h24), if_pos ((hd_eq (hT x1).1 (by omega)).mp h37), if_neg (fun z => h56 ((sub1_g (hT x1).2).mpr z))]; exact mKs_of (hT) (hr))
          · have hb40 : b x1 ≤ 40 := (hT x1).2
            obtain ⟨i1, hi1, rfl⟩ := z_in ((sub1_g (hT x1).2).mp h56) (by show b x1 < 2 ^ 31; omega)
            have hi40 : i1 < 40 := Nat.lt_of_lt_of_le hi1 hb40
            refine z_al0 (pc' := 60) 35 rfl rfl ?_
            refine z_getf (pc' := 63) 36 rfl rfl f_Mo_47_12 (by first | exact psm_99 | exact psm_100 | exact psm_101 | (rw [psm_o (by decide)]; assumption)) (by rfl) ?_
            refine z_bipush (v := nI 40) (by decide) (pc' := 65) 37 rfl rfl ?_
            refine z_il1 (pc' := 66) 38 rfl rfl ?_
            first | refine z_imulN (pc' := 67) 39 rfl rfl ?_ | refine z_imul (pc' := 67) 39 rfl rfl ?_
            refine z_il3 (pc' := 68) 40 rfl rfl ?_
            first | refine z_iaddN (pc' := 69) 41 rfl rfl ?_ | refine z_iadd (pc' := 69) 41 rfl rfl ?_
            refine z_lald (pc' := 70) 42 rfl rfl (by first | exact psm_99 | exact psm_100 | exact psm_101 | (rw [psm_o (by decide)]; assumption)) (by omega) (by decide) ?_
            refine z_l2i (pc' := 71) 43 rfl rfl ?_
            rw [hr x1 i1 (by omega) hi1, Int32.toInt32_toInt64]
            refine z_goto 44 rfl (tgt := 76) rfl ?_
            exact z_ireturn 46 rfl rfl (by first | rfl | exact zbo_nar) rfl rfl (by show mKs μ _ _ _; rw [f_item, if_pos ⟨h4, h13⟩, tN_n (show x1 < 2 ^ 31 by omega), tN_n (show y1 < 2 ^ 31 by omega), if_neg ((hd_ge (hT x1).1).mp h24), if_pos ((hd_eq (hT x1).1 (by omega)).mp h37), if_pos ((sub1_g (hT x1).2).mp h56), tN_n (show i1 < 2 ^ 31 by omega)]; exact mKs_of (hT) (hr))
        · refine z_bipush (v := (-13)) (by decide) (pc' := 42) 23 rfl rfl ?_
          exact z_ireturn 24 rfl rfl (by first | rfl | exact zbo_nar) rfl rfl (by show mKs μ _ _ _; rw [f_item, if_pos ⟨h4, h13⟩, tN_n (show x1 < 2 ^ 31 by omega), tN_n (show y1 < 2 ^ 31 by omega), if_neg ((hd_ge (hT x1).1).mp h24), if_neg (fun z => h37 ((hd_eq (hT x1).1 (by omega)).mpr z))]; exact mKs_of (hT) (hr))
      · refine z_bipush (v := (-11)) (by decide) (pc' := 29) 15 rfl rfl ?_
        exact z_ireturn 16 rfl rfl (by first | rfl | exact zbo_nar) rfl rfl (by show mKs μ _ _ _; rw [f_item, if_pos ⟨h4, h13⟩, tN_n (show x1 < 2 ^ 31 by omega), tN_n (show y1 < 2 ^ 31 by omega), if_pos (Classical.byContradiction (fun z => h24 ((hd_ge (hT x1).1).mpr z)))]; exact mKs_of (hT) (hr))
    · refine z_iconst (v := (-1)) (by decide) (pc' := 17) 8 rfl rfl ?_
      exact z_ireturn 9 rfl rfl (by first | rfl | exact zbo_nar) rfl rfl (by show mKs μ _ _ _; rw [f_item, if_neg (fun z => h13 z.2)]; exact mKs_of (hT) (hr))
def nAc (τ : zτ) (x y : Int32) : Int32 := if (nI 0 ≤ x ∧ x ≤ nI 3) ∧ (nI 0 ≤ y ∧ y ≤ nI 20) then rfS τ (tN x) 1 else -1
set_option maxHeartbeats 4000000 in
set_option maxRecDepth 100000 in
theorem c_Mo_notActs {G : zG} {n u : Nat} {μ : Nat → va_E} {τ : zτ} {s : Nat → Int32} (h99 : μ 99 = .inl (0, 4, .inl (fun j => hdI (τ.1 j)))) (hT : iT τ) (hob : μ 88 = mob s) (x y : Int32) : zMet G 2 M_Mo_notActs [.ref 88, .int x, .int y] n u μ n u (zE (some (.int (nAc τ x y))) μ) := by
  unfold mob at hob
  refine z_start (lv := [.ref 88, .int x, .int y]) K_Mo_notActs rfl rfl (Nat.le_refl _) (Nat.le_refl _) (Nat.le_of_ble_eq_true rfl) rfl ?_
  refine z_il1 (pc' := 1) 0 rfl rfl ?_
  refine z_callS1 (pc' := 4) 1 rfl rfl k_Mo_310 (c_Mo_isFour _) (by decide) (Nat.le_refl _) (Nat.le_refl _) rfl rfl (Nat.le_of_ble_eq_true rfl) ?_
  first | refine z_if_eqB (pc' := 7) 2 rfl rfl (tgt := 17) rfl (fun h4 => ?_) (fun h4 => ?_) | refine z_if_eqN (pc' := 7) 2 rfl rfl (tgt := 17) rfl (by omega) (fun h4 => ?_) (fun h4 => ?_) | refine z_if_eq (pc' := 7) 2 rfl rfl (tgt := 17) rfl (fun h4 => ?_) (fun h4 => ?_)
  · refine z_iconst (v := (-1)) (by decide) (pc' := 18) 8 rfl rfl ?_
    exact z_ireturn 9 rfl rfl (by first | rfl | exact zbo_nar) rfl rfl (by exact ⟨by rw [nAc, if_neg (fun z => h4 z.1)], rfl⟩)
  · refine z_il2 (pc' := 8) 3 rfl rfl ?_
    refine z_iconst (v := nI 0) (by decide) (pc' := 9) 4 rfl rfl ?_
    refine z_bipush (v := nI 20) (by decide) (pc' := 11) 5 rfl rfl ?_
    refine z_callS1 (pc' := 14) 6 rfl rfl k_Mo_67 (c_Mo_in _ _ _) (by decide) (Nat.le_refl _) (Nat.le_refl _) rfl rfl (Nat.le_of_ble_eq_true rfl) ?_
    first | refine z_if_neB (pc' := 17) 7 rfl rfl (tgt := 19) rfl (fun h14 => ?_) (fun h14 => ?_) | refine z_if_neN (pc' := 17) 7 rfl rfl (tgt := 19) rfl (by omega) (fun h14 => ?_) (fun h14 => ?_) | refine z_if_ne (pc' := 17) 7 rfl rfl (tgt := 19) rfl (fun h14 => ?_) (fun h14 => ?_)
    · obtain ⟨x1, hx0, hx1, rfl⟩ := z_wi h4 (by decide) (by decide)
      refine z_al0 (pc' := 20) 10 rfl rfl ?_
      refine z_getf (pc' := 23) 11 rfl rfl f_Mo_41_12 (by assumption) (by rfl) ?_
      refine z_il1 (pc' := 24) 12 rfl rfl ?_
      refine z_iald (pc' := 25) 13 rfl rfl (by assumption) (by omega) (by decide) ?_
      first | refine z_if_ge (pc' := 28) 14 rfl rfl (tgt := 33) rfl (fun h25 => ?_) (fun h25 => ?_)
      · refine z_al0 (pc' := 34) 17 rfl rfl ?_
        refine z_getf (pc' := 37) 18 rfl rfl f_Mo_41_12 (by assumption) (by rfl) ?_
        refine z_il1 (pc' := 38) 19 rfl rfl ?_
        refine z_iald (pc' := 39) 20 rfl rfl (by assumption) (by omega) (by decide) ?_
        first | refine z_if_ne (pc' := 42) 21 rfl rfl (tgt := 46) rfl (fun h39 => ?_) (fun h39 => ?_)
        · refine z_bipush (v := (-13)) (by decide) (pc' := 48) 24 rfl rfl ?_
          exact z_ireturn 25 rfl rfl (by first | rfl | exact zbo_nar) rfl rfl (by exact ⟨by rw [nAc, if_pos ⟨h4, h14⟩, tN_n (show x1 < 2 ^ 31 by omega), rfS, if_neg ((hd_ge (hT x1).1).mp h25), if_neg (fun z => h39 ((hd_0 (hT x1).1).mpr z))], rfl⟩)
        · refine z_iconst (v := nI 0) (by decide) (pc' := 43) 22 rfl rfl ?_
          refine z_goto 23 rfl (tgt := 48) rfl ?_
          exact z_ireturn 25 rfl rfl (by first | rfl | exact zbo_nar) rfl rfl (by exact ⟨by rw [nAc, if_pos ⟨h4, h14⟩, tN_n (show x1 < 2 ^ 31 by omega), rfS, if_neg ((hd_ge (hT x1).1).mp h25), if_pos ((hd_0 (hT x1).1).mp h39)], rfl⟩)
      · refine z_bipush (v := (-11)) (by decide) (pc' := 30) 15 rfl rfl ?_
        refine z_goto 16 rfl (tgt := 48) rfl ?_
        exact z_ireturn 25 rfl rfl (by first | rfl | exact zbo_nar) rfl rfl (by exact ⟨by rw [nAc, if_pos ⟨h4, h14⟩, tN_n (show x1 < 2 ^ 31 by omega), rfS, if_pos (Classical.byContradiction (fun z => h25 ((hd_ge (hT x1).1).mpr z)))], rfl⟩)
    · refine z_iconst (v := (-1)) (by decide) (pc' := 18) 8 rfl rfl ?_
      exact z_ireturn 9 rfl rfl (by first | rfl | exact zbo_nar) rfl rfl (by exact ⟨by rw [nAc, if_neg (fun z => h14 z.2)], rfl⟩)
set_option maxHeartbeats 4000000 in
set_option maxRecDepth 100000 in
theorem c_Mo_isPlace {G : zG} {n u : Nat} {μ : Nat → va_E} {τ : zτ} {s : Nat → Int32} (h100 : μ 100 = .inl (0, 4, .inl (fun j => nI (τ.2.1 j)))) (hob : μ 88 = mob s) {x : Nat} (hx : x ≤ 3) (L : Int64) : zMet G 0 M_Mo_isPlace [.ref 88, .int (nI x), .long L] n u μ n u (zE (some (.int (zbo (0 ≤ L ∧ L < (nI (τ.2.1 x)).toInt64)))) μ) := by
  unfold mob at hob
  refine z_start (lv := [.ref 88, .int (nI x), .long L, .retAddr 0]) K_Mo_isPlace rfl rfl (Nat.le_refl _) (Nat.le_refl _) (Nat.le_of_ble_eq_true rfl) rfl ?_
  refine z_ll2 (pc' := 1) 0 rfl rfl ?_
  refine z_lconst (v := 0) (by decide) (pc' := 2) 1 rfl rfl ?_
  refine z_lcmp (pc' := 3) 2 rfl rfl ?_
  first | refine z_if_lt (pc' := 6) 3 rfl rfl (tgt := 22) rfl (fun h3 => ?_) (fun h3 => ?_)
  · refine z_iconst (v := nI 0) (by decide) (pc' := 23) 14 rfl rfl ?_
    exact z_ireturn 15 rfl rfl (by first | rfl | exact zbo_nar) rfl rfl (by exact ⟨by rw [zbo_f (fun z => absurd ((lg_cmp_lt _ _).mp h3) (Int64.not_lt.mpr z.1))], rfl⟩)
  · refine z_ll2 (pc' := 7) 4 rfl rfl ?_
    refine z_al0 (pc' := 8) 5 rfl rfl ?_
    refine z_getf (pc' := 11) 6 rfl rfl f_Mo_44_12 (by assumption) (by rfl) ?_
    refine z_il1 (pc' := 12) 7 rfl rfl ?_
    refine z_iald (pc' := 13) 8 rfl rfl (by assumption) (by omega) (by decide) ?_
    refine z_i2l (pc' := 14) 9 rfl rfl ?_
    refine z_lcmp (pc' := 15) 10 rfl rfl ?_
    first | refine z_if_ge (pc' := 18) 11 rfl rfl (tgt := 22) rfl (fun h15 => ?_) (fun h15 => ?_)
    · refine z_iconst (v := nI 0) (by decide) (pc' := 23) 14 rfl rfl ?_
      exact z_ireturn 15 rfl rfl (by first | rfl | exact zbo_nar) rfl rfl (by exact ⟨by rw [zbo_f (fun z => absurd z.2 (Int64.not_lt.mpr ((lg_cmp_ge _ _).mp h15)))], rfl⟩)
    · refine z_iconst (v := nI 1) (by decide) (pc' := 19) 12 rfl rfl ?_
      refine z_goto 13 rfl (tgt := 23) rfl ?_
      exact z_ireturn 15 rfl rfl (by first | rfl | exact zbo_nar) rfl rfl (by exact ⟨by rw [zbo_t ⟨Int64.not_lt.mp (fun z => h3 ((lg_cmp_lt _ _).mpr z)), Int64.not_le.mp (fun z => h15 ((lg_cmp_ge _ _).mpr z))⟩], rfl⟩)
theorem in_P {i : Int32} {k z : Nat} (hk : k < 40) (hz : z ≤ 40) : (0 ≤ i.toInt64 + (nI k).toInt64 ∧ i.toInt64 + (nI k).toInt64 < (nI z).toInt64) ↔ (0 ≤ i + nI k ∧ i + nI k < nI z) := by
  have h1 := Int32.le_toInt i
  have h2 := Int32.toInt_lt i
  have e1 : (i + nI k).toInt = (i.toInt + (k : Int)).bmod (2 ^ 32) := by rw [Int32.toInt_add, nI_toInt (by omega)]
  have e2 : (i.toInt64 + (nI k).toInt64).toInt = (i.toInt + (k : Int)).bmod (2 ^ 64) := by rw [Int64.toInt_add, Int32.toInt_toInt64, Int32.toInt_toInt64, nI_toInt (by omega)]
  rw [Int64.le_iff_toInt_le, Int64.lt_iff_toInt_lt, Int32.le_iff_toInt_le, Int32.lt_iff_toInt_lt, e1, e2, Int32.toInt_toInt64, nI_toInt (by omega)]
  show (0 ≤ _ ∧ _) ↔ (0 ≤ _ ∧ _)
  have b1 : (i.toInt + (k : Int)).bmod (2 ^ 64) = i.toInt + k := Int.bmod_eq_of_le (by omega) (by omega)
  rw [b1]
  by_cases hc : i.toInt + (k : Int) < 2 ^ 31
  · rw [show (i.toInt + (k : Int)).bmod (2 ^ 32) = i.toInt + k from Int.bmod_eq_of_le (by omega) (by omega)]
  · have b2 : (i.toInt + (k : Int)).bmod (2 ^ 32) = i.toInt + k - 2 ^ 32 := by
      rw [Int.bmod_def]
      rw [if_neg (by omega)]
      omega
    rw [b2]
    omega
set_option maxHeartbeats 4000000 in
set_option maxRecDepth 100000 in
theorem l_Mo_goAll {G : zG} {n u : Nat} {Φ : zP} {ν : Nat → va_E} {s : Nat → Int32} {S : Nat → Nat → Nat} {ch : Int32} {rc : Nat} {ρ w : Nat → Int32} {D : zD6} (hi : iS S) (hD : dzM ρ rc D) {τ : zτ} {c0 : Nat → Int64} (h99 : ν 99 = .inl (0, 4, .inl (fun j => hdI (τ.1 j)))) (h100 : ν 100 = .inl (0, 4, .inl (fun j => nI (τ.2.1 j)))) (h101 : ν 101 = .inl (2, 160, .inr (.inl c0))) (hr : rlC τ c0) (hT : iT τ) {sh : Nat} (hsh3 : sh ≤ 3) {i : Int32} {N : Nat} (hN : N ≤ 20) : ∀ c k acc mo pr fa sc (q : Nat → Int32) v, k + c = N → acc + 108 * c ≤ 3000 → mo ≤ S 0 3 → iX S pr fa → (∀ (q' : Nat → Int32) (v' : Int32), Φ (some (.int (gaA S D τ sh i c k acc (mo, pr, fa) sc).1)) (pm (zu (zu ν 91 (.inl (0, 618, .inl w))) 93 (.inl (1, 100, .inl q'))) (un s 14 v') (mk S (gaA S D τ sh i c k acc (mo, pr, fa) sc).2.1.1 (gaA S D τ sh i c k acc (mo, pr, fa) sc).2.1.2.1 (gaA S D τ sh i c k acc (mo, pr, fa) sc).2.1.2.2 (gaA S D τ sh i c k acc (mo, pr, fa) sc).2.2 ch rc ρ))) →
    zW G 6 M_Mo_goAll 22 [.ref 88, .int (nI sh), .int i, .int (nI N), .int (nI 0), .int (nI acc), .int (nI k), .retAddr 0] [] n u (pm (zu (zu ν 91 (.inl (0, 618, .inl w))) 93 (.inl (1, 100, .inl q))) (un s 14 v) (mk S mo pr fa sc ch rc ρ)) n u Φ
  | 0, k, acc, mo, pr, fa, sc, q, v, e, ha, hmo, hx, KK => by
    refine z_il6 (pc' := 24) 13 rfl rfl ?_
    refine z_il3 (pc' := 25) 14 rfl rfl ?_
    first | refine z_icmp_geN (pc' := 28) 15 rfl rfl (tgt := 107) rfl (by omega) (by omega) (fun h25 => ?_) (fun h25 => ?_) | refine z_icmp_ge (pc' := 28) 15 rfl rfl (tgt := 107) rfl (fun h25 => ?_) (fun h25 => ?_)
    · refine z_il5 (pc' := 109) 62 rfl rfl ?_
      exact z_ireturn 63 rfl rfl (by first | rfl | exact zbo_nar) rfl rfl (by exact KK _ _)
    · exfalso; omega
  | c + 1, k, acc, mo, pr, fa, sc, q, v, e, ha, hmo, hx, KK => by
    have hi3 := hi.2.2.2.2.1
    have hi0 := hi.1
    have hb40 := (hT sh).2
    have hwl := fun act => wor_le hi (D := D) (act := act) (t := (mo, pr, fa))
    refine z_il6 (pc' := 24) 13 rfl rfl ?_
    refine z_il3 (pc' := 25) 14 rfl rfl ?_
    first | refine z_icmp_geN (pc' := 28) 15 rfl rfl (tgt := 107) rfl (by omega) (by omega) (fun h25 => ?_) (fun h25 => ?_) | refine z_icmp_ge (pc' := 28) 15 rfl rfl (tgt := 107) rfl (fun h25 => ?_) (fun h25 => ?_)
    · exfalso; omega
    · refine z_al0 (pc' := 29) 16 rfl rfl ?_
      refine z_il1 (pc' := 30) 17 rfl rfl ?_
      refine z_il2 (pc' := 31) 18 rfl rfl ?_
      refine z_i2l (pc' := 32) 19 rfl rfl ?_
      refine z_il6 (pc' := 34) 20 rfl rfl ?_
      refine z_i2l (pc' := 35) 21 rfl rfl ?_
      refine z_ladd (pc' := 36) 22 rfl rfl ?_
      refine z_callV1 (pc' := 39) 23 rfl rfl k_Mo_316 (by first | exact pm_f | exact pm_1 | (rw [pm_o (by decide)]; first | exact zu_s | (rw [zu_n (by decide)]; first | exact zu_s | (rw [zu_n (by decide)]; assumption)))) (c_Mo_isPlace (τ := τ) (s := un s 14 v) (by rw [pm_o (by decide), zu_n (by decide), zu_n (by decide)]; exact h100) pm_0 hsh3 _) (by decide) (Nat.le_refl _) (Nat.le_refl _) rfl rfl (Nat.le_of_ble_eq_true rfl) ?_
      first | refine z_if_neB (pc' := 42) 24 rfl rfl (tgt := 45) rfl (fun h39 => ?_) (fun h39 => ?_) | refine z_if_neN (pc' := 42) 24 rfl rfl (tgt := 45) rfl (by omega) (fun h39 => ?_) (fun h39 => ?_) | refine z_if_ne (pc' := 42) 24 rfl rfl (tgt := 45) rfl (fun h39 => ?_) (fun h39 => ?_)
      · obtain ⟨m, hm, em⟩ := z_in ((in_P (by omega) hb40).mp h39) (by omega)
        have e2 : tN (i + nI k) = m := by rw [em, tN_n (by omega)]
        have hin := (in_P (by omega) hb40).mp h39
        refine z_al0 (pc' := 46) 27 rfl rfl ?_
        refine z_getf (pc' := 49) 28 rfl rfl f_Mo_47_12 (by first | exact pm_f | exact pm_1 | (rw [pm_o (by decide)]; first | exact zu_s | (rw [zu_n (by decide)]; first | exact zu_s | (rw [zu_n (by decide)]; assumption)))) (by rfl) ?_
        refine z_bipush (v := nI 40) (by decide) (pc' := 51) 29 rfl rfl ?_
        refine z_il1 (pc' := 52) 30 rfl rfl ?_
        first | refine z_imulN (pc' := 53) 31 rfl rfl ?_ | refine z_imul (pc' := 53) 31 rfl rfl ?_
        refine z_il2 (pc' := 54) 32 rfl rfl ?_
        refine z_iadd (pc' := 55) 33 rfl rfl ?_
        refine z_il6 (pc' := 57) 34 rfl rfl ?_
        refine z_iadd (pc' := 58) 35 rfl rfl ?_
        rw [add_ix em]
        refine z_lald (pc' := 59) 36 rfl rfl (by first | exact pm_f | exact pm_1 | (rw [pm_o (by decide)]; first | exact zu_s | (rw [zu_n (by decide)]; first | exact zu_s | (rw [zu_n (by decide)]; assumption)))) (by omega) (by decide) ?_
        refine z_l2i (pc' := 60) 37 rfl rfl ?_
        rw [hr sh m (by omega) hm, Int32.toInt32_toInt64]
        refine z_is7 rfl rfl (pc' := 62) 38 rfl rfl ?_
        refine z_il5 (pc' := 64) 39 rfl rfl ?_
        refine z_il7 (pc' := 66) 40 rfl rfl ?_
        refine z_iconst (v := nI 0) (by decide) (pc' := 67) 41 rfl rfl ?_
        refine z_al0 (pc' := 68) 42 rfl rfl ?_
        refine z_getf (pc' := 71) 43 rfl rfl f_Mo_9_12 (by first | exact pm_f | exact pm_1 | (rw [pm_o (by decide)]; first | exact zu_s | (rw [zu_n (by decide)]; first | exact zu_s | (rw [zu_n (by decide)]; assumption)))) (by rfl) ?_
        refine z_iconst (v := nI 3) (by decide) (pc' := 72) 44 rfl rfl ?_
        refine z_iald (pc' := 73) 45 rfl rfl (by first | exact pm_f | exact pm_1 | (rw [pm_o (by decide)]; first | exact zu_s | (rw [zu_n (by decide)]; first | exact zu_s | (rw [zu_n (by decide)]; assumption)))) (by omega) (by decide) ?_
        rw [mk_3]
        refine z_callS1 (pc' := 76) 46 rfl rfl k_Mo_67 (c_Mo_in _ _ _) (by decide) (Nat.le_refl _) (Nat.le_refl _) rfl rfl (Nat.le_of_ble_eq_true rfl) ?_
        first | refine z_if_eqB (pc' := 79) 47 rfl rfl (tgt := 97) rfl (fun h76 => ?_) (fun h76 => ?_) | refine z_if_eqN (pc' := 79) 47 rfl rfl (tgt := 97) rfl (by omega) (fun h76 => ?_) (fun h76 => ?_) | refine z_if_eq (pc' := 79) 47 rfl rfl (tgt := 97) rfl (fun h76 => ?_) (fun h76 => ?_)
        · refine z_iconst (v := nI 0) (by decide) (pc' := 98) 57 rfl rfl ?_
          first | refine z_iaddN (pc' := 99) 58 rfl rfl ?_ | refine z_iadd (pc' := 99) 58 rfl rfl ?_
          rw [Nat.add_zero]
          refine z_is5 rfl rfl (pc' := 101) 59 rfl rfl ?_
          first | refine z_inc6N rfl rfl (pc' := 104) 60 rfl rfl ?_ | refine z_inc6 rfl rfl rfl (pc' := 104) 60 rfl rfl ?_
          refine z_goto 61 rfl (tgt := 22) rfl ?_
          refine z_less7 ?_
          rw [gaA, if_pos hin, e2, if_neg (fun z => h76 z.1)] at KK
          exact l_Mo_goAll hi hD h99 h100 h101 hr hT hsh3 hN c (k + 1) _ _ _ _ _ _ _ (by omega) (by omega) hmo hx KK
        · refine z_al0 (pc' := 80) 48 rfl rfl ?_
          refine z_callV1 (pc' := 83) 49 rfl rfl k_Mo_124 (by first | exact pm_f | exact pm_1 | (rw [pm_o (by decide)]; first | exact zu_s | (rw [zu_n (by decide)]; first | exact zu_s | (rw [zu_n (by decide)]; assumption)))) (c_Mo_isOver hi (by omega)) (by decide) (Nat.le_refl _) (Nat.le_refl _) rfl rfl (Nat.le_of_ble_eq_true rfl) ?_
          first | refine z_if_neB (pc' := 86) 50 rfl rfl (tgt := 97) rfl (fun h83 => ?_) (fun h83 => ?_) | refine z_if_neN (pc' := 86) 50 rfl rfl (tgt := 97) rfl (by omega) (fun h83 => ?_) (fun h83 => ?_) | refine z_if_ne (pc' := 86) 50 rfl rfl (tgt := 97) rfl (fun h83 => ?_) (fun h83 => ?_)
          · refine z_iconst (v := nI 0) (by decide) (pc' := 98) 57 rfl rfl ?_
            first | refine z_iaddN (pc' := 99) 58 rfl rfl ?_ | refine z_iadd (pc' := 99) 58 rfl rfl ?_
            rw [Nat.add_zero]
            refine z_is5 rfl rfl (pc' := 101) 59 rfl rfl ?_
            first | refine z_inc6N rfl rfl (pc' := 104) 60 rfl rfl ?_ | refine z_inc6 rfl rfl rfl (pc' := 104) 60 rfl rfl ?_
            refine z_goto 61 rfl (tgt := 22) rfl ?_
            refine z_less7 ?_
            rw [gaA, if_pos hin, e2, if_neg (fun z => by have := z.2; have : mo < S 0 3 := this; omega)] at KK
            exact l_Mo_goAll hi hD h99 h100 h101 hr hT hsh3 hN c (k + 1) _ _ _ _ _ _ _ (by omega) (by omega) hmo hx KK
          · obtain ⟨a1, ha0, ha1, ea⟩ := z_wi (a := 0) h76 (by omega) (by decide)
            have hwa : (mon S D mo a1 pr fa).2.2.2.2 ≤ 108 := hwl a1
            rw [ea]
            refine z_al0 (pc' := 87) 51 rfl rfl ?_
            refine z_il7 (pc' := 89) 52 rfl rfl ?_
            refine z_iconst (v := nI 1) (by decide) (pc' := 90) 53 rfl rfl ?_
            refine z_isub (pc' := 91) 54 rfl rfl ?_
            refine z_callVX1 (pc' := 94) 55 rfl rfl k_Mo_227 (by first | exact pm_f | exact pm_1 | (rw [pm_o (by decide)]; first | exact zu_s | (rw [zu_n (by decide)]; first | exact zu_s | (rw [zu_n (by decide)]; assumption)))) (c_Mo_goes (act := a1) hi hD (by omega) (by omega) hx) (by decide) (Nat.le_refl _) (Nat.le_refl _) rfl rfl (Nat.le_of_ble_eq_true rfl) (fun q91 => ?_)
            refine z_goto 56 rfl (tgt := 98) rfl ?_
            first | refine z_iaddN (pc' := 99) 58 rfl rfl ?_ | refine z_iadd (pc' := 99) 58 rfl rfl ?_
            
            refine z_is5 rfl rfl (pc' := 101) 59 rfl rfl ?_
            first | refine z_inc6N rfl rfl (pc' := 104) 60 rfl rfl ?_ | refine z_inc6 rfl rfl rfl (pc' := 104) 60 rfl rfl ?_
            refine z_goto 61 rfl (tgt := 22) rfl ?_
            refine z_less7 ?_
            rw [gaA, if_pos hin, e2, if_pos ⟨h76, by show mo < S 0 3; omega⟩, ea, tN_n (by omega)] at KK
            rw [un_un]
            exact l_Mo_goAll hi hD h99 h100 h101 hr hT hsh3 hN c (k + 1) _ _ _ _ _ _ _ (by omega) (by omega) (by omega) (mon_ok hi hx) KK
      · refine z_bipush (v := (-12)) (by decide) (pc' := 44) 25 rfl rfl ?_
        exact z_ireturn 26 rfl rfl (by first | rfl | exact zbo_nar) rfl rfl (by rw [gaA, if_neg (fun z => h39 ((in_P (by omega) hb40).mpr z))] at KK; exact KK _ _)
theorem go_no {τ : zτ} {S : Nat → Nat → Nat} {mo : Nat} {pr fa : Nat → Nat} {sc ch : Int32} {rc : Nat} {D : zD6} {x i v : Int32} (h : ¬ nAc τ x v = 0) : f_goAll τ (S, mo, pr, fa, sc, ch, rc, D) x i v = (nAc τ x v, (S, mo, pr, fa, sc, ch, rc, D)) := by
  by_cases e : (nI 0 ≤ x ∧ x ≤ nI 3) ∧ (nI 0 ≤ v ∧ v ≤ nI 20)
  · rw [nAc, if_pos e] at h
    rw [f_goAll, nAc, if_pos e, if_pos e, if_neg (show ¬ rfS τ (tN x) 1 = nI 0 from h)]
  · rw [f_goAll, nAc, if_neg e, if_neg e]
theorem wb_no {τ : zτ} {S : Nat → Nat → Nat} {mo : Nat} {pr fa : Nat → Nat} {sc ch : Int32} {rc : Nat} {D : zD6} {x i v : Int32} (h : ¬ nAc τ x v = 0) : f_wouldBe τ (S, mo, pr, fa, sc, ch, rc, D) x i v = nAc τ x v := by
  by_cases e : (nI 0 ≤ x ∧ x ≤ nI 3) ∧ (nI 0 ≤ v ∧ v ≤ nI 20)
  · rw [nAc, if_pos e] at h
    rw [f_wouldBe, nAc, if_pos e, if_pos e, if_neg (show ¬ rfS τ (tN x) 1 = nI 0 from h)]
  · rw [f_wouldBe, nAc, if_neg e, if_neg e]
set_option maxHeartbeats 4000000 in
set_option maxRecDepth 100000 in
theorem c_Mo_goAll {G : zG} {n u : Nat} {μ : Nat → va_E} {κ : zκ} {τ : zτ} {s : Nat → Int32} (h : mst μ s κ) (hsh : isShM μ τ) (x i v : Int32) :
    zMet G 7 M_Mo_goAll [.ref 88, .int x, .int i, .int v] n u μ n u (mK μ s (f_goAll τ κ x i v)) := by
  obtain ⟨S, mo, pr, fa, sc, ch, rc, D⟩ := κ
  have hst := h
  obtain ⟨⟨ρ, h1, hD⟩, h2, ⟨q93, h93⟩, ⟨q91, h91⟩, ⟨q94, h94⟩, ⟨q95, h95⟩, ⟨q96, h96⟩, ⟨q97, h97⟩, h5⟩ := h
  have hk5 := h5
  obtain ⟨hi, hx, hmo, hrc⟩ := h5
  have hi0 := hi.1
  have hi1 := hi.2.1
  have hi2 := hi.2.2.1
  have hi3 := hi.2.2.2.2.1
  have hm16 : mo ≤ 16 := by omega
  obtain ⟨c0, h99, h100, h101, hr, hT⟩ := hsh
  refine z_start (lv := [.ref 88, .int x, .int i, .int v, .retAddr 0, .retAddr 0, .retAddr 0, .retAddr 0]) K_Mo_goAll rfl rfl (Nat.le_refl _) (Nat.le_refl _) (Nat.le_of_ble_eq_true rfl) rfl ?_
  refine z_mu (show μ = pm (zu (zu μ 91 (.inl (0, 618, .inl q91))) 93 (.inl (1, 100, .inl q93))) s (mk S mo pr fa sc ch rc ρ) by rw [zu_id h91, zu_id h93, pm_id h2 h1]) ?_
  refine z_al0 (pc' := 1) 0 rfl rfl ?_
  refine z_il1 (pc' := 2) 1 rfl rfl ?_
  refine z_il3 (pc' := 3) 2 rfl rfl ?_
  refine z_callV1 (pc' := 6) 3 rfl rfl k_Mo_313 (by first | exact pm_f | exact pm_1 | (rw [pm_o (by decide)]; first | exact zu_s | (rw [zu_n (by decide)]; first | exact zu_s | (rw [zu_n (by decide)]; assumption)))) (c_Mo_notActs (τ := τ) (s := s) (by rw [pm_o (by decide), zu_n (by decide), zu_n (by decide)]; exact h99) hT pm_0 _ _) (by decide) (Nat.le_refl _) (Nat.le_refl _) rfl rfl (Nat.le_of_ble_eq_true rfl) ?_
  refine z_is4 rfl rfl (pc' := 8) 4 rfl rfl ?_
  refine z_il4 (pc' := 10) 5 rfl rfl ?_
  first | refine z_if_eq (pc' := 13) 6 rfl rfl (tgt := 16) rfl (fun h10 => ?_) (fun h10 => ?_)
  · have hna : (nI 0 ≤ x ∧ x ≤ nI 3) ∧ (nI 0 ≤ v ∧ v ≤ nI 20) := Classical.byContradiction (fun z => by rw [nAc, if_neg z] at h10; exact absurd h10 (by decide))
    rw [nAc, if_pos hna] at h10
    obtain ⟨x1, hx0, hx1, rfl⟩ := z_wi hna.1 (by decide) (by decide)
    obtain ⟨v1, hv0, hv1, rfl⟩ := z_wi hna.2 (by decide) (by decide)
    rw [tN_n (by omega)] at h10
    rw [nAc, if_pos hna, tN_n (show x1 < 2 ^ 31 by omega), h10]
    refine z_iconst (v := nI 0) (by decide) (pc' := 17) 9 rfl rfl ?_
    refine z_is5 rfl rfl (pc' := 19) 10 rfl rfl ?_
    refine z_iconst (v := nI 0) (by decide) (pc' := 20) 11 rfl rfl ?_
    refine z_is6 rfl rfl (pc' := 22) 12 rfl rfl ?_
    refine zW_dm (show 6 ≤ 7 by decide) ?_
    refine z_mu (show _ = pm (zu (zu μ 91 (.inl (0, 618, .inl q91))) 93 (.inl (1, 100, .inl q93))) (un s 14 (s 14)) (mk S mo pr fa sc ch rc ρ) by rw [un_id]) ?_
    refine l_Mo_goAll hi hD h99 h100 h101 hr hT hx1 hv1 v1 0 0 mo pr fa sc _ _ (Nat.zero_add _) (by omega) hmo hx (fun q9 v9 => ?_)
    show mK μ s _ _ _; rw [f_goAll, if_pos hna, tN_n (show x1 < 2 ^ 31 by omega), tN_n (show v1 < 2 ^ 31 by omega), if_pos (show rfS τ x1 1 = nI 0 from h10)]; exact mK_of3 hst (sEq14) hD (⟨hi, (gaA_ok hi _ _ _ (mo, pr, fa) _ hmo hx).2, (gaA_ok hi _ _ _ (mo, pr, fa) _ hmo hx).1, hrc⟩)
  · refine z_il4 (pc' := 15) 7 rfl rfl ?_
    exact z_ireturn 8 rfl rfl (by first | rfl | exact zbo_nar) rfl rfl (by show mK μ s _ _ _; rw [show f_goAll τ (S, mo, pr, fa, sc, ch, rc, D) x i v = (nAc τ x v, (S, mo, pr, fa, sc, ch, rc, D)) from go_no h10]; exact mK_of3 hst sEq_r hD hk5)
set_option maxHeartbeats 4000000 in
set_option maxRecDepth 100000 in
theorem l_Mo_wouldW {G : zG} {n u : Nat} {Φ : zP} {μ : Nat → va_E} {N k : Nat} {x : Int32} {x1 x2 x5 x7 x8 : Value} (hN : N ≤ 40) (hk : k ≤ 40) (hx : ¬ x = 0) (K : zW G 6 M_Mo_wouldBe 144 [.ref 88, x1, x2, .int (nI N), .int x, x5, .int (nI k), x7, x8] [] n u μ n u Φ) : zW G 6 M_Mo_wouldBe 26 [.ref 88, x1, x2, .int (nI N), .int x, x5, .int (nI k), x7, x8] [] n u μ n u Φ := by
  refine z_il6 (pc' := 28) 15 rfl rfl ?_
  refine z_il3 (pc' := 29) 16 rfl rfl ?_
  first | refine z_icmp_geN (pc' := 32) 17 rfl rfl (tgt := 144) rfl (by omega) (by omega) (fun h29 => ?_) (fun h29 => ?_) | refine z_icmp_ge (pc' := 32) 17 rfl rfl (tgt := 144) rfl (fun h29 => ?_) (fun h29 => ?_)
  · exact K
  · refine z_il4 (pc' := 34) 18 rfl rfl ?_
    refine z_if_ne_t 19 rfl (tgt := 144) rfl hx ?_
    exact K
set_option maxHeartbeats 4000000 in
set_option maxRecDepth 100000 in
theorem l_Mo_wouldBe {G : zG} {n u : Nat} {Φ : zP} {ν : Nat → va_E} {s : Nat → Int32} {S : Nat → Nat → Nat} {ch : Int32} {rc : Nat} {ρ w : Nat → Int32} {D : zD6} (hi : iS S) (hD : dzM ρ rc D) {τ : zτ} {c0 : Nat → Int64} (h99 : ν 99 = .inl (0, 4, .inl (fun j => hdI (τ.1 j)))) (h100 : ν 100 = .inl (0, 4, .inl (fun j => nI (τ.2.1 j)))) (h101 : ν 101 = .inl (2, 160, .inr (.inl c0))) (hr : rlC τ c0) (hT : iT τ) {sh : Nat} (hsh3 : sh ≤ 3) {i : Int32} {N : Nat} (hN : N ≤ 20) : ∀ c k acc mo pr fa sc (q : Nat → Int32) v, k + c = N → acc + 108 * c ≤ 3000 → mo ≤ 16 → iX S pr fa → (∀ mo' pr' fa' sc' (q' : Nat → Int32) v' (y : Int32) (a' : Nat) i' j' l', a' ≤ 3000 → ((y = nI 0 ∧ (wbA S D τ sh i c k acc (mo, pr, fa)) = nI a') ∨ (¬ y = 0 ∧ (wbA S D τ sh i c k acc (mo, pr, fa)) = y)) → zW G 6 M_Mo_wouldBe 144 [.ref 88, .int (nI sh), .int i, .int (nI N), .int y, .int (nI a'), i', j', l'] [] n u (pm (zu (zu ν 91 (.inl (0, 618, .inl w))) 93 (.inl (1, 100, .inl q'))) (un s 14 v') (mk S mo' pr' fa' sc' ch rc ρ)) n u Φ) →
    zW G 6 M_Mo_wouldBe 26 [.ref 88, .int (nI sh), .int i, .int (nI N), .int (nI 0), .int (nI acc), .int (nI k), .retAddr 0, .retAddr 0] [] n u (pm (zu (zu ν 91 (.inl (0, 618, .inl w))) 93 (.inl (1, 100, .inl q))) (un s 14 v) (mk S mo pr fa sc ch rc ρ)) n u Φ
  | 0, k, acc, mo, pr, fa, sc, q, v, e, ha, hmo, hx, KK => by
    refine z_il6 (pc' := 28) 15 rfl rfl ?_
    refine z_il3 (pc' := 29) 16 rfl rfl ?_
    first | refine z_icmp_geN (pc' := 32) 17 rfl rfl (tgt := 144) rfl (by omega) (by omega) (fun h29 => ?_) (fun h29 => ?_) | refine z_icmp_ge (pc' := 32) 17 rfl rfl (tgt := 144) rfl (fun h29 => ?_) (fun h29 => ?_)
    · exact KK _ _ _ _ _ _ _ _ _ _ _ (by omega) (Or.inl ⟨rfl, rfl⟩)
    · exfalso; omega
  | c + 1, k, acc, mo, pr, fa, sc, q, v, e, ha, hmo, hx, KK => by
    have hi3 := hi.2.2.2.2.1
    have hi0 := hi.1
    have hb40 := (hT sh).2
    have hwl := fun act => wor_le hi (D := D) (act := act) (t := (mo, pr, fa))
    refine z_il6 (pc' := 28) 15 rfl rfl ?_
    refine z_il3 (pc' := 29) 16 rfl rfl ?_
    first | refine z_icmp_geN (pc' := 32) 17 rfl rfl (tgt := 144) rfl (by omega) (by omega) (fun h29 => ?_) (fun h29 => ?_) | refine z_icmp_ge (pc' := 32) 17 rfl rfl (tgt := 144) rfl (fun h29 => ?_) (fun h29 => ?_)
    · exfalso; omega
    · refine z_il4 (pc' := 34) 18 rfl rfl ?_
      refine z_if_ne_f (pc' := 37) 19 rfl rfl (tgt := 144) rfl (show nI 0 = 0 from rfl) ?_
      refine z_al0 (pc' := 38) 20 rfl rfl ?_
      refine z_il1 (pc' := 39) 21 rfl rfl ?_
      refine z_il2 (pc' := 40) 22 rfl rfl ?_
      refine z_i2l (pc' := 41) 23 rfl rfl ?_
      refine z_il6 (pc' := 43) 24 rfl rfl ?_
      refine z_i2l (pc' := 44) 25 rfl rfl ?_
      refine z_ladd (pc' := 45) 26 rfl rfl ?_
      refine z_callV1 (pc' := 48) 27 rfl rfl k_Mo_316 (by first | exact pm_f | exact pm_1 | (rw [pm_o (by decide)]; first | exact zu_s | (rw [zu_n (by decide)]; first | exact zu_s | (rw [zu_n (by decide)]; assumption)))) (c_Mo_isPlace (τ := τ) (s := un s 14 v) (by rw [pm_o (by decide), zu_n (by decide), zu_n (by decide)]; exact h100) pm_0 hsh3 _) (by decide) (Nat.le_refl _) (Nat.le_refl _) rfl rfl (Nat.le_of_ble_eq_true rfl) ?_
      refine z_is7 rfl rfl (pc' := 50) 28 rfl rfl ?_
      refine z_il7 (pc' := 52) 29 rfl rfl ?_
      first | refine z_if_eqB (pc' := 55) 30 rfl rfl (tgt := 73) rfl (fun h52 => ?_) (fun h52 => ?_) | refine z_if_eqN (pc' := 55) 30 rfl rfl (tgt := 73) rfl (by omega) (fun h52 => ?_) (fun h52 => ?_) | refine z_if_eq (pc' := 55) 30 rfl rfl (tgt := 73) rfl (fun h52 => ?_) (fun h52 => ?_)
      · refine z_iconst (v := nI 0) (by decide) (pc' := 74) 43 rfl rfl ?_
        refine z_is8 rfl rfl (pc' := 76) 44 rfl rfl ?_
        refine z_il7 (pc' := 78) 45 rfl rfl ?_
        refine z_if_ne_f (pc' := 81) 46 rfl rfl (tgt := 86) rfl (by rw [zbo_f h52]; rfl) ?_
        refine z_bipush (v := (-12)) (by decide) (pc' := 83) 47 rfl rfl ?_
        refine z_goto 48 rfl (tgt := 114) rfl ?_
        refine z_is4 rfl rfl (pc' := 116) 63 rfl rfl ?_
        refine z_il5 (pc' := 118) 64 rfl rfl ?_
        refine z_il4 (pc' := 120) 65 rfl rfl ?_
        refine z_if_ne_t 66 rfl (tgt := 134) rfl (by decide) ?_
        refine z_iconst (v := nI 0) (by decide) (pc' := 135) 73 rfl rfl ?_
        first | refine z_iaddN (pc' := 136) 74 rfl rfl ?_ | refine z_iadd (pc' := 136) 74 rfl rfl ?_
        refine z_is5 rfl rfl (pc' := 138) 75 rfl rfl ?_
        first | refine z_inc6N rfl rfl (pc' := 141) 76 rfl rfl ?_ | refine z_inc6 rfl rfl rfl (pc' := 141) 76 rfl rfl ?_
        refine z_goto 77 rfl (tgt := 26) rfl ?_
        rw [wbA, if_neg (fun z => h52 ((in_P (by omega) hb40).mpr z))] at KK
        refine l_Mo_wouldW (by omega) (by omega) (by decide) ?_
        exact KK _ _ _ _ _ _ _ _ _ _ _ (by omega) (Or.inr ⟨by decide, rfl⟩)
      · obtain ⟨m, hm, em⟩ := z_in ((in_P (by omega) hb40).mp h52) (by omega)
        have e2 : tN (i + nI k) = m := by rw [em, tN_n (by omega)]
        have hin := (in_P (by omega) hb40).mp h52
        refine z_al0 (pc' := 56) 31 rfl rfl ?_
        refine z_getf (pc' := 59) 32 rfl rfl f_Mo_47_12 (by first | exact pm_f | exact pm_1 | (rw [pm_o (by decide)]; first | exact zu_s | (rw [zu_n (by decide)]; first | exact zu_s | (rw [zu_n (by decide)]; assumption)))) (by rfl) ?_
        refine z_bipush (v := nI 40) (by decide) (pc' := 61) 33 rfl rfl ?_
        refine z_il1 (pc' := 62) 34 rfl rfl ?_
        first | refine z_imulN (pc' := 63) 35 rfl rfl ?_ | refine z_imul (pc' := 63) 35 rfl rfl ?_
        refine z_il2 (pc' := 64) 36 rfl rfl ?_
        refine z_iadd (pc' := 65) 37 rfl rfl ?_
        refine z_il6 (pc' := 67) 38 rfl rfl ?_
        refine z_iadd (pc' := 68) 39 rfl rfl ?_
        rw [add_ix em]
        refine z_lald (pc' := 69) 40 rfl rfl (by first | exact pm_f | exact pm_1 | (rw [pm_o (by decide)]; first | exact zu_s | (rw [zu_n (by decide)]; first | exact zu_s | (rw [zu_n (by decide)]; assumption)))) (by omega) (by decide) ?_
        refine z_l2i (pc' := 70) 41 rfl rfl ?_
        rw [hr sh m (by omega) hm, Int32.toInt32_toInt64]
        refine z_goto 42 rfl (tgt := 74) rfl ?_
        refine z_is8 rfl rfl (pc' := 76) 44 rfl rfl ?_
        refine z_il7 (pc' := 78) 45 rfl rfl ?_
        refine z_if_ne_t 46 rfl (tgt := 86) rfl (by rw [zbo_t h52]; decide) ?_
        refine z_al0 (pc' := 87) 49 rfl rfl ?_
        refine z_callV1 (pc' := 90) 50 rfl rfl k_Mo_124 (by first | exact pm_f | exact pm_1 | (rw [pm_o (by decide)]; first | exact zu_s | (rw [zu_n (by decide)]; first | exact zu_s | (rw [zu_n (by decide)]; assumption)))) (c_Mo_isOver hi (by omega)) (by decide) (Nat.le_refl _) (Nat.le_refl _) rfl rfl (Nat.le_of_ble_eq_true rfl) ?_
        first | refine z_if_neB (pc' := 93) 51 rfl rfl (tgt := 108) rfl (fun h90 => ?_) (fun h90 => ?_) | refine z_if_neN (pc' := 93) 51 rfl rfl (tgt := 108) rfl (by omega) (fun h90 => ?_) (fun h90 => ?_) | refine z_if_ne (pc' := 93) 51 rfl rfl (tgt := 108) rfl (fun h90 => ?_) (fun h90 => ?_)
        · refine z_bipush (v := (-4)) (by decide) (pc' := 110) 60 rfl rfl ?_
          refine z_goto 61 rfl (tgt := 114) rfl ?_
          refine z_is4 rfl rfl (pc' := 116) 63 rfl rfl ?_
          refine z_il5 (pc' := 118) 64 rfl rfl ?_
          refine z_il4 (pc' := 120) 65 rfl rfl ?_
          refine z_if_ne_t 66 rfl (tgt := 134) rfl (by decide) ?_
          refine z_iconst (v := nI 0) (by decide) (pc' := 135) 73 rfl rfl ?_
          first | refine z_iaddN (pc' := 136) 74 rfl rfl ?_ | refine z_iadd (pc' := 136) 74 rfl rfl ?_
          refine z_is5 rfl rfl (pc' := 138) 75 rfl rfl ?_
          first | refine z_inc6N rfl rfl (pc' := 141) 76 rfl rfl ?_ | refine z_inc6 rfl rfl rfl (pc' := 141) 76 rfl rfl ?_
          refine z_goto 77 rfl (tgt := 26) rfl ?_
          rw [wbA, if_pos hin, e2, if_neg (fun z => by have := z.2; have : mo < S 0 3 := this; omega)] at KK
          refine l_Mo_wouldW (by omega) (by omega) (by decide) ?_
          exact KK _ _ _ _ _ _ _ _ _ _ _ (by omega) (Or.inr ⟨by decide, rfl⟩)
        · refine z_il8 (pc' := 95) 52 rfl rfl ?_
          refine z_iconst (v := nI 0) (by decide) (pc' := 96) 53 rfl rfl ?_
          refine z_al0 (pc' := 97) 54 rfl rfl ?_
          refine z_getf (pc' := 100) 55 rfl rfl f_Mo_9_12 (by first | exact pm_f | exact pm_1 | (rw [pm_o (by decide)]; first | exact zu_s | (rw [zu_n (by decide)]; first | exact zu_s | (rw [zu_n (by decide)]; assumption)))) (by rfl) ?_
          refine z_iconst (v := nI 3) (by decide) (pc' := 101) 56 rfl rfl ?_
          refine z_iald (pc' := 102) 57 rfl rfl (by first | exact pm_f | exact pm_1 | (rw [pm_o (by decide)]; first | exact zu_s | (rw [zu_n (by decide)]; first | exact zu_s | (rw [zu_n (by decide)]; assumption)))) (by omega) (by decide) ?_
          rw [mk_3]
          refine z_callS1 (pc' := 105) 58 rfl rfl k_Mo_67 (c_Mo_in _ _ _) (by decide) (Nat.le_refl _) (Nat.le_refl _) rfl rfl (Nat.le_of_ble_eq_true rfl) ?_
          first | refine z_if_neB (pc' := 108) 59 rfl rfl (tgt := 113) rfl (fun h105 => ?_) (fun h105 => ?_) | refine z_if_neN (pc' := 108) 59 rfl rfl (tgt := 113) rfl (by omega) (fun h105 => ?_) (fun h105 => ?_) | refine z_if_ne (pc' := 108) 59 rfl rfl (tgt := 113) rfl (fun h105 => ?_) (fun h105 => ?_)
          · refine z_iconst (v := nI 0) (by decide) (pc' := 114) 62 rfl rfl ?_
            refine z_is4 rfl rfl (pc' := 116) 63 rfl rfl ?_
            refine z_il5 (pc' := 118) 64 rfl rfl ?_
            refine z_il4 (pc' := 120) 65 rfl rfl ?_
            refine z_if_ne_f (pc' := 123) 66 rfl rfl (tgt := 134) rfl (show nI 0 = 0 from rfl) ?_
            obtain ⟨a1, ha0, ha1, ea⟩ := z_wi (a := 0) h105 (by omega) (by decide)
            have hwa : (mon S D mo a1 pr fa).2.2.2.2 ≤ 108 := hwl a1
            rw [ea]
            refine z_al0 (pc' := 124) 67 rfl rfl ?_
            refine z_il8 (pc' := 126) 68 rfl rfl ?_
            refine z_iconst (v := nI 1) (by decide) (pc' := 127) 69 rfl rfl ?_
            refine z_isub (pc' := 128) 70 rfl rfl ?_
            refine z_callVX1 (pc' := 131) 71 rfl rfl k_Mo_227 (by first | exact pm_f | exact pm_1 | (rw [pm_o (by decide)]; first | exact zu_s | (rw [zu_n (by decide)]; first | exact zu_s | (rw [zu_n (by decide)]; assumption)))) (c_Mo_goes (act := a1) hi hD (by omega) (by omega) hx) (by decide) (Nat.le_refl _) (Nat.le_refl _) rfl rfl (Nat.le_of_ble_eq_true rfl) (fun q128 => ?_)
            refine z_goto 72 rfl (tgt := 135) rfl ?_
            first | refine z_iaddN (pc' := 136) 74 rfl rfl ?_ | refine z_iadd (pc' := 136) 74 rfl rfl ?_
            refine z_is5 rfl rfl (pc' := 138) 75 rfl rfl ?_
            first | refine z_inc6N rfl rfl (pc' := 141) 76 rfl rfl ?_ | refine z_inc6 rfl rfl rfl (pc' := 141) 76 rfl rfl ?_
            refine z_goto 77 rfl (tgt := 26) rfl ?_
            refine z_less7 (z_less8 ?_)
            rw [wbA, if_pos hin, e2, if_pos ⟨h105, by show mo < S 0 3; omega⟩, ea, tN_n (by omega)] at KK
            rw [un_un]
            exact l_Mo_wouldBe hi hD h99 h100 h101 hr hT hsh3 hN c (k + 1) _ _ _ _ _ _ _ (by omega) (by omega) (by omega) (mon_ok hi hx) KK
          · refine z_bipush (v := (-4)) (by decide) (pc' := 110) 60 rfl rfl ?_
            refine z_goto 61 rfl (tgt := 114) rfl ?_
            refine z_is4 rfl rfl (pc' := 116) 63 rfl rfl ?_
            refine z_il5 (pc' := 118) 64 rfl rfl ?_
            refine z_il4 (pc' := 120) 65 rfl rfl ?_
            refine z_if_ne_t 66 rfl (tgt := 134) rfl (by decide) ?_
            refine z_iconst (v := nI 0) (by decide) (pc' := 135) 73 rfl rfl ?_
            first | refine z_iaddN (pc' := 136) 74 rfl rfl ?_ | refine z_iadd (pc' := 136) 74 rfl rfl ?_
            refine z_is5 rfl rfl (pc' := 138) 75 rfl rfl ?_
            first | refine z_inc6N rfl rfl (pc' := 141) 76 rfl rfl ?_ | refine z_inc6 rfl rfl rfl (pc' := 141) 76 rfl rfl ?_
            refine z_goto 77 rfl (tgt := 26) rfl ?_
            rw [wbA, if_pos hin, e2, if_neg (fun z => h105 z.1)] at KK
            refine l_Mo_wouldW (by omega) (by omega) (by decide) ?_
            exact KK _ _ _ _ _ _ _ _ _ _ _ (by omega) (Or.inr ⟨by decide, rfl⟩)
set_option maxHeartbeats 4000000 in
set_option maxRecDepth 100000 in
theorem c_Mo_wouldBe {G : zG} {n u : Nat} {μ : Nat → va_E} {κ : zκ} {τ : zτ} {s : Nat → Int32} (h : mst μ s κ) (hsh : isShM μ τ) (x i v : Int32) :
    zMet G 6 M_Mo_wouldBe [.ref 88, .int x, .int i, .int v] n u μ n u (mK μ s (f_wouldBe τ κ x i v, κ)) := by
  obtain ⟨S, mo, pr, fa, sc, ch, rc, D⟩ := κ
  have hst := h
  obtain ⟨⟨ρ, h1, hD⟩, h2, ⟨q93, h93⟩, ⟨q91, h91⟩, ⟨q94, h94⟩, ⟨q95, h95⟩, ⟨q96, h96⟩, ⟨q97, h97⟩, h5⟩ := h
  have hk5 := h5
  obtain ⟨hi, hx, hmo, hrc⟩ := h5
  have hi0 := hi.1
  have hi1 := hi.2.1
  have hi2 := hi.2.2.1
  have hi3 := hi.2.2.2.2.1
  have hm16 : mo ≤ 16 := by omega
  obtain ⟨c0, h99, h100, h101, hr, hT⟩ := hsh
  refine z_start (lv := [.ref 88, .int x, .int i, .int v, .retAddr 0, .retAddr 0, .retAddr 0, .retAddr 0, .retAddr 0]) K_Mo_wouldBe rfl rfl (Nat.le_refl _) (Nat.le_refl _) (Nat.le_of_ble_eq_true rfl) rfl ?_
  refine z_mu (show μ = pm (zu (zu μ 91 (.inl (0, 618, .inl q91))) 93 (.inl (1, 100, .inl q93))) s (mk S mo pr fa sc ch rc ρ) by rw [zu_id h91, zu_id h93, pm_id h2 h1]) ?_
  refine z_al0 (pc' := 1) 0 rfl rfl ?_
  refine z_il1 (pc' := 2) 1 rfl rfl ?_
  refine z_il3 (pc' := 3) 2 rfl rfl ?_
  refine z_callV1 (pc' := 6) 3 rfl rfl k_Mo_313 (by first | exact pm_f | exact pm_1 | (rw [pm_o (by decide)]; first | exact zu_s | (rw [zu_n (by decide)]; first | exact zu_s | (rw [zu_n (by decide)]; assumption)))) (c_Mo_notActs (τ := τ) (s := s) (by rw [pm_o (by decide), zu_n (by decide), zu_n (by decide)]; exact h99) hT pm_0 _ _) (by decide) (Nat.le_refl _) (Nat.le_refl _) rfl rfl (Nat.le_of_ble_eq_true rfl) ?_
  refine z_is4 rfl rfl (pc' := 8) 4 rfl rfl ?_
  refine z_il4 (pc' := 10) 5 rfl rfl ?_
  first | refine z_if_eq (pc' := 13) 6 rfl rfl (tgt := 16) rfl (fun h10 => ?_) (fun h10 => ?_)
  · have hna : (nI 0 ≤ x ∧ x ≤ nI 3) ∧ (nI 0 ≤ v ∧ v ≤ nI 20) := Classical.byContradiction (fun z => by rw [nAc, if_neg z] at h10; exact absurd h10 (by decide))
    rw [nAc, if_pos hna] at h10
    obtain ⟨x1, hx0, hx1, rfl⟩ := z_wi hna.1 (by decide) (by decide)
    obtain ⟨v1, hv0, hv1, rfl⟩ := z_wi hna.2 (by decide) (by decide)
    rw [tN_n (by omega)] at h10
    rw [nAc, if_pos hna, tN_n (show x1 < 2 ^ 31 by omega), h10]
    refine z_al0 (pc' := 17) 9 rfl rfl ?_
    refine z_callV0 (pc' := 20) 10 rfl rfl k_Mo_194 (by first | exact pm_f | exact pm_1 | (rw [pm_o (by decide)]; first | exact zu_s | (rw [zu_n (by decide)]; first | exact zu_s | (rw [zu_n (by decide)]; assumption)))) (c_Mo_thinks) (by decide) (Nat.le_refl _) (Nat.le_refl _) rfl rfl (Nat.le_of_ble_eq_true rfl) ?_
    refine z_iconst (v := nI 0) (by decide) (pc' := 21) 11 rfl rfl ?_
    refine z_is5 rfl rfl (pc' := 23) 12 rfl rfl ?_
    refine z_iconst (v := nI 0) (by decide) (pc' := 24) 13 rfl rfl ?_
    refine z_is6 rfl rfl (pc' := 26) 14 rfl rfl ?_
    refine z_mu (show _ = pm (zu (zu μ 91 (.inl (0, 618, .inl (mk S mo pr fa sc ch rc ρ)))) 93 (.inl (1, 100, .inl q93))) (un s 14 (s 14)) (mk S mo pr fa sc ch rc ρ) by rw [un_id]) ?_
    refine l_Mo_wouldBe hi hD h99 h100 h101 hr hT hx1 hv1 v1 0 0 mo pr fa sc _ _ (Nat.zero_add _) (by omega) hm16 hx (fun mo1 pr1 fa1 sc1 q1 v9 y9 a9 i9 j9 l9 ha9 hor => ?_)
    rcases hor with ⟨hy9, hw9⟩ | ⟨hy9, hw9⟩
    · refine z_al0 (pc' := 145) 78 rfl rfl ?_
      refine z_callV0 (pc' := 148) 79 rfl rfl k_Mo_200 (by first | exact pm_f | exact pm_1 | (rw [pm_o (by decide)]; first | exact zu_s | (rw [zu_n (by decide)]; first | exact zu_s | (rw [zu_n (by decide)]; assumption)))) (c_Mo_putsBack) (by decide) (Nat.le_refl _) (Nat.le_refl _) rfl rfl (Nat.le_of_ble_eq_true rfl) ?_
      refine z_il4 (pc' := 150) 80 rfl rfl ?_
      refine z_if_ne_f (pc' := 153) 81 rfl rfl (tgt := 158) rfl hy9 ?_
      refine z_il5 (pc' := 155) 82 rfl rfl ?_
      refine z_goto 83 rfl (tgt := 160) rfl ?_
      exact z_ireturn 85 rfl rfl (by first | rfl | exact zbo_nar) rfl rfl (by show mK μ s _ _ _; rw [f_wouldBe, if_pos hna, tN_n (show x1 < 2 ^ 31 by omega), tN_n (show v1 < 2 ^ 31 by omega), if_pos (show rfS τ x1 1 = nI 0 from h10), hw9]; exact mK_of3 hst (sEq14) hD (hk5))
    · refine z_al0 (pc' := 145) 78 rfl rfl ?_
      refine z_callV0 (pc' := 148) 79 rfl rfl k_Mo_200 (by first | exact pm_f | exact pm_1 | (rw [pm_o (by decide)]; first | exact zu_s | (rw [zu_n (by decide)]; first | exact zu_s | (rw [zu_n (by decide)]; assumption)))) (c_Mo_putsBack) (by decide) (Nat.le_refl _) (Nat.le_refl _) rfl rfl (Nat.le_of_ble_eq_true rfl) ?_
      refine z_il4 (pc' := 150) 80 rfl rfl ?_
      refine z_if_ne_t 81 rfl (tgt := 158) rfl hy9 ?_
      refine z_il4 (pc' := 160) 84 rfl rfl ?_
      exact z_ireturn 85 rfl rfl (by first | rfl | exact zbo_nar) rfl rfl (by show mK μ s _ _ _; rw [f_wouldBe, if_pos hna, tN_n (show x1 < 2 ^ 31 by omega), tN_n (show v1 < 2 ^ 31 by omega), if_pos (show rfS τ x1 1 = nI 0 from h10), hw9]; exact mK_of3 hst (sEq14) hD (hk5))
  · refine z_il4 (pc' := 15) 7 rfl rfl ?_
    exact z_ireturn 8 rfl rfl (by first | rfl | exact zbo_nar) rfl rfl (by show mK μ s _ _ _; rw [show f_wouldBe τ (S, mo, pr, fa, sc, ch, rc, D) x i v = nAc τ x v from wb_no h10]; exact mK_of3 hst sEq_r hD hk5)
