def okN (x : Int32) : Prop := nI 0 ≤ x ∧ x ≤ nI 4
def stI (ng : Nat) (x : Int32) : Prop := nI 0 ≤ x ∧ x ≤ nI (2 ^ ng - 1)
def f_best : zκ → Int32 → Int32
  | (S, mo, pr, fa, _, _, _, D), x => if nI 0 ≤ x ∧ x ≤ nI 4 then hdI (srF S D (nI 0) (min (tN x) (S 0 3 - mo)) (mo, pr, fa)).1.1 else -1
def f_ways : zκ → Int32 → Int32
  | (S, mo, pr, fa, _, _, _, D), x => if nI 0 ≤ x ∧ x ≤ nI 4 then (srF S D (nI 0) (min (tN x) (S 0 3 - mo)) (mo, pr, fa)).1.2.1 else -1
def f_ith : zκ → Int32 → Int32 → Int32
  | (S, mo, pr, fa, _, _, _, D), x, y => if nI 0 ≤ x ∧ x ≤ nI 4 then (if nI 0 ≤ y ∧ y ≤ nI 3 then (if tN y < (min (tN x) (S 0 3 - mo)) then nI (dgt (S 0 0 + 1) ((min (tN x) (S 0 3 - mo)) - 1 - tN y) (srF S D (nI 0) (min (tN x) (S 0 3 - mo)) (mo, pr, fa)).1.2.2) else -3) else -1) else -1
def f_bound : zκ → Int32 → Int32 → Int32
  | (S, mo, pr, fa, _, _, _, D), x, y => if nI 0 ≤ x ∧ x ≤ nI 4 then (if nI 0 ≤ y ∧ y ≤ nI (2 ^ S 0 0 - 1) then (if (srF S D y (min (tN x) (S 0 3 - mo)) (mo, pr, fa)).2.1 ≤ 4 then nI (srF S D y (min (tN x) (S 0 3 - mo)) (mo, pr, fa)).2.1 else -3) else -1) else -1
def f_bars : zκ → Int32 → Int32 → Int32
  | (S, mo, pr, fa, _, _, _, D), x, y => if nI 0 ≤ x ∧ x ≤ nI 4 then (if nI 0 ≤ y ∧ y ≤ nI (2 ^ S 0 0 - 1) then (if bdf (tN y) (srF S D y (min (tN x) (S 0 3 - mo)) (mo, pr, fa)).2.2 = 0 then -3 else nI (ntz (bdf (tN y) (srF S D y (min (tN x) (S 0 3 - mo)) (mo, pr, fa)).2.2))) else -1) else -1
theorem sr_ev {S : Nat → Nat → Nat} (hi : iS S) {D : zD6} {set : Int32} {K : Nat} {t : zT3} : (srF S D set K t).2.2 < 64 := by
  unfold srF
  exact fdN_inv (P := fun s : zSr => s.2.2 < 64) (fun p s q => Nat.or_lt_two_pow (n := 6) q (psN_lt _ _ hi.1)) _ _ _ (by show 0 < 64; decide)
theorem sh_neg {x : Int32} {k : Nat} (h : x < 0) (hk : k < 32) : ¬ x >>> (nI k &&& 31) = 0 := by
  intro z
  have e : (x >>> (nI k &&& 31)).toInt = x.toInt / 2 ^ k := by
    rw [← Int32.toInt_toBitVec, Int32.toBitVec_shiftRight]
    rw [show (nI k &&& 31).toBitVec.smod 32 = BitVec.ofNat 32 k from BitVec.eq_of_toNat_eq (by rw [nb_sl k hk, BitVec.toNat_ofNat, Nat.mod_eq_of_lt (by omega)])]
    rw [BitVec.sshiftRight_eq', BitVec.toInt_sshiftRight, BitVec.toNat_ofNat, Nat.mod_eq_of_lt (by omega), Int32.toInt_toBitVec, Int.shiftRight_eq_div_pow]
    rfl
  rw [z] at e
  have h1 : x.toInt < 0 := by
    have := Int32.lt_iff_toInt_lt.mp h
    exact this
  have h2 : (0 : Int) < 2 ^ k := Int.pow_pos (by decide)
  have h3 := Int.ediv_neg_of_neg_of_pos h1 h2
  rw [← e] at h3
  exact absurd h3 (by decide)
set_option maxHeartbeats 4000000 in
set_option maxRecDepth 100000 in
theorem c_Wb_isPlanLength {G : zG} {n u : Nat} {μ : Nat → va_E} (x : Int32) : zMet G 1 M_Wb_isPlanLength [.int x] n u μ n u (zE (some (.int (zbo (nI 0 ≤ x ∧ x ≤ nI 4)))) μ) := by
  refine z_start (lv := [.int x]) K_Wb_isPlanLength rfl rfl (Nat.le_refl _) (Nat.le_refl _) (Nat.le_of_ble_eq_true rfl) rfl ?_
  refine z_il0 (pc' := 1) 0 rfl rfl ?_
  refine z_iconst (v := nI 0) (by decide) (pc' := 2) 1 rfl rfl ?_
  refine z_iconst (v := nI 4) (by decide) (pc' := 3) 2 rfl rfl ?_
  refine z_callS1 (pc' := 6) 3 rfl rfl k_Wb_72 (c_Wb_within _ _ _) (by decide) (Nat.le_refl _) (Nat.le_refl _) rfl rfl (Nat.le_of_ble_eq_true rfl) ?_
  exact z_ireturn 4 rfl rfl (by first | rfl | exact zbo_nar) rfl rfl (by exact ⟨rfl, rfl⟩)
set_option maxHeartbeats 4000000 in
set_option maxRecDepth 100000 in
theorem c_Wb_isSetOfGirls {G : zG} {n u : Nat} {μ : Nat → va_E} {S : Nat → Nat → Nat} {sc ch : Int32} (hco : isCo μ S sc ch) (hi : iS S) (h4 : ∃ fs, μ 4 = .inr (11, .ref 5 :: fs)) (x : Int32) : zMet G 0 M_Wb_isSetOfGirls [.ref 4, .int x] n u μ n u (zE (some (.int (zbo (nI 0 ≤ x ∧ x ≤ nI (2 ^ S 0 0 - 1))))) μ) := by
  obtain ⟨fs, h4⟩ := h4
  have hi0 := hi.1
  have hco1 := hco.1
  have hp2 : 2 ^ S 0 0 ≤ 2 ^ 6 := Nat.pow_le_pow_right (by decide) hi0
  have hp3 : 0 < 2 ^ S 0 0 := Nat.two_pow_pos _
  have key : (nI 0 ≤ x ∧ x ≤ nI (2 ^ S 0 0 - 1)) ↔ x >>> (nI (S 0 0) &&& 31) = 0 := by
    by_cases hn : x < 0
    · constructor
      · intro z
        exact absurd (Int32.lt_of_le_of_lt z.1 hn) (by decide)
      · intro z
        exact absurd z (sh_neg hn (by omega))
    · obtain ⟨j, hj, rfl⟩ := nI_of hn
      rw [nb_shr hj (by omega), nI_leI (by decide) hj, nI_leI hj (by omega)]
      rw [show (0 : Int32) = nI 0 from rfl, nI_eq (Nat.lt_of_le_of_lt (Nat.div_le_self _ _) hj) (by decide)]
      constructor
      · intro z
        exact Nat.div_eq_of_lt (by omega)
      · intro z
        have := (Nat.div_eq_zero_iff).mp z
        omega
  refine z_start (lv := [.ref 4, .int x]) K_Wb_isSetOfGirls rfl rfl (Nat.le_refl _) (Nat.le_refl _) (Nat.le_of_ble_eq_true rfl) rfl ?_
  refine z_il1 (pc' := 1) 0 rfl rfl ?_
  refine z_al0 (pc' := 2) 1 rfl rfl ?_
  refine z_getf (pc' := 5) 2 rfl rfl f_Wb_10_11 (by assumption) (by rfl) ?_
  refine z_getf (pc' := 8) 3 rfl rfl f_Wb_76_3 (by assumption) (by rfl) ?_
  refine z_ishr (pc' := 9) 4 rfl rfl ?_
  first | refine z_if_ne (pc' := 12) 5 rfl rfl (tgt := 16) rfl (fun h9 => ?_) (fun h9 => ?_)
  · refine z_iconst (v := nI 0) (by decide) (pc' := 17) 8 rfl rfl ?_
    exact z_ireturn 9 rfl rfl (by first | rfl | exact zbo_nar) rfl rfl (by exact ⟨by rw [zbo_f (fun z => h9 (key.mp z))], rfl⟩)
  · refine z_iconst (v := nI 1) (by decide) (pc' := 13) 6 rfl rfl ?_
    refine z_goto 7 rfl (tgt := 17) rfl ?_
    exact z_ireturn 9 rfl rfl (by first | rfl | exact zbo_nar) rfl rfl (by exact ⟨by rw [zbo_t (key.mpr h9)], rfl⟩)
set_option maxHeartbeats 4000000 in
set_option maxRecDepth 100000 in
theorem c_Wb_best {G : zG} {n u : Nat} {μ : Nat → va_E} {κ : zκ} {kp : Int32} {ac : Value} (h : cst μ κ) (hob : isOb μ kp ac) {R : Nat} {rw : Nat → Int32} (hpl : isPl μ R rw) (x : Int32) :
    zMet G 12 M_Wb_best [.ref 4, .int x] n u μ n u (cKp μ κ (f_best κ x) R rw) := by
  obtain ⟨S, mo, pr, fa, sc, ch, rc, D⟩ := κ
  have hst := h
  obtain ⟨h1, ⟨cs, q, h2⟩, ⟨β, its, h3, h3a, h3b⟩, ⟨c23, h4⟩, h5⟩ := h
  have hk5 := h5
  obtain ⟨hi, hx, hmo, hrc⟩ := h5
  have hi0 := hi.1
  have hi1 := hi.2.1
  have hi2 := hi.2.2.1
  have hi3 := hi.2.2.2.2.1
  obtain ⟨f, ba, ac, cr, ψ, bh, h56, h57, h58, h59, h60, hbh, h5c, hf7, hR⟩ := hpl
  have hm16 : mo ≤ 16 := by omega
  have hmo0 : mo ≤ S 0 3 := hmo
  refine z_start (lv := [.ref 4, .int x]) K_Wb_best rfl rfl (Nat.le_refl _) (Nat.le_refl _) (Nat.le_of_ble_eq_true rfl) rfl ?_
  have h13 := h2
  have h13a := h2.1
  have hco := h1
  unfold isOb at hob
  refine z_mu (pl_id h56 h57 h58 h59 h5c).symm ?_
  refine z_il1 (pc' := 1) 0 rfl rfl ?_
  refine z_callS1 (pc' := 4) 1 rfl rfl k_Wb_203 (c_Wb_isPlanLength x) (by decide) (Nat.le_refl _) (Nat.le_refl _) rfl rfl (Nat.le_of_ble_eq_true rfl) ?_
  first | refine z_if_neB (pc' := 7) 2 rfl rfl (tgt := 9) rfl (fun h4 => ?_) (fun h4 => ?_) | refine z_if_neN (pc' := 7) 2 rfl rfl (tgt := 9) rfl (by omega) (fun h4 => ?_) (fun h4 => ?_) | refine z_if_ne (pc' := 7) 2 rfl rfl (tgt := 9) rfl (fun h4 => ?_) (fun h4 => ?_)
  · obtain ⟨x1, hx1, hx2, rfl⟩ := z_wi h4 (by decide) (by decide)
    refine z_al0 (pc' := 10) 5 rfl rfl ?_
    refine z_getf (pc' := 13) 6 rfl rfl f_Wb_43_11 (by first | (rw [pc5_o (by decide)]; first | exact pob_56 | exact pob_57 | exact pob_58 | exact pob_59 | (rw [pob_o (by decide)]; first | assumption | exact hco.1)) | exact (pc5_is (by omega)).1) (by rfl) ?_
    refine z_al0 (pc' := 14) 7 rfl rfl ?_
    refine z_getf (pc' := 17) 8 rfl rfl f_Wb_10_11 (by first | (rw [pc5_o (by decide)]; first | exact pob_56 | exact pob_57 | exact pob_58 | exact pob_59 | (rw [pob_o (by decide)]; first | assumption | exact hco.1)) | exact (pc5_is (by omega)).1) (by rfl) ?_
    refine z_il1 (pc' := 18) 9 rfl rfl ?_
    refine z_iconst (v := nI 0) (by decide) (pc' := 19) 10 rfl rfl ?_
    refine z_callV (pc' := 22) 11 rfl rfl k_Wb_206 (by first | (rw [pc5_o (by decide)]; first | exact pob_56 | exact pob_57 | exact pob_58 | exact pob_59 | (rw [pob_o (by decide)]; first | assumption | exact hco.1)) | exact (pc5_is (by omega)).1) (c_Pl_search (N := x1) (K := min x1 (S 0 3 - mo)) h1 hi h3 h3a h60 hbh h13 (by omega) rfl hmo0 hx) (by decide) (Nat.le_refl _) (Nat.le_refl _) rfl rfl (Nat.le_of_ble_eq_true rfl) (fun r19 μ19 h19 => ?_)
    obtain ⟨y0, f9, ba9, ac9, ψ9, y1, y2, y3, y5, y6⟩ := h19
    subst y0; subst y1
    obtain ⟨s0, s10, s1, s2, s4, s5, s7, s8, s9⟩ := y2
    have hf9 := y6.trans hf7
    dsimp only [Option.toList_none, List.nil_append]
    refine z_al0 (pc' := 23) 12 rfl rfl ?_
    refine z_getf (pc' := 26) 13 rfl rfl f_Wb_43_11 (by first | (rw [pc5_o (by decide)]; first | exact pob_56 | exact pob_57 | exact pob_58 | exact pob_59 | (rw [pob_o (by decide)]; first | assumption | exact hco.1)) | exact (pc5_is (by omega)).1) (by rfl) ?_
    refine z_getf (pc' := 29) 14 rfl rfl f_Wb_209_7 (by first | (rw [pc5_o (by decide)]; first | exact pob_56 | exact pob_57 | exact pob_58 | exact pob_59 | (rw [pob_o (by decide)]; first | assumption | exact hco.1)) | exact (pc5_is (by omega)).1) (by rfl) ?_
    refine z_te (show _ = hdI (srF S D (nI 0) (min x1 (S 0 3 - mo)) (mo, pr, fa)).1.1 from s1) ?_
    exact z_ireturn 15 rfl rfl (by first | rfl | exact zbo_nar) rfl rfl (by refine ⟨by rw [f_best, if_pos h4, tN_n (by omega)], isPl_of h60 hbh hf9 hR, fun i hi => by rw [pc5_o (by omega), pob_o (by omega)]⟩)
  · refine z_iconst (v := (-1)) (by decide) (pc' := 8) 3 rfl rfl ?_
    exact z_ireturn 4 rfl rfl (by first | rfl | exact zbo_nar) rfl rfl (by refine ⟨by rw [f_best, if_neg h4], isPl_of h60 hbh hf7 hR, fun i hi => by rw [pc5_o (by omega), pob_o (by omega)]⟩)
set_option maxHeartbeats 4000000 in
set_option maxRecDepth 100000 in
theorem c_Wb_ways {G : zG} {n u : Nat} {μ : Nat → va_E} {κ : zκ} {kp : Int32} {ac : Value} (h : cst μ κ) (hob : isOb μ kp ac) {R : Nat} {rw : Nat → Int32} (hpl : isPl μ R rw) (x : Int32) :
    zMet G 12 M_Wb_ways [.ref 4, .int x] n u μ n u (cKp μ κ (f_ways κ x) R rw) := by
  obtain ⟨S, mo, pr, fa, sc, ch, rc, D⟩ := κ
  have hst := h
  obtain ⟨h1, ⟨cs, q, h2⟩, ⟨β, its, h3, h3a, h3b⟩, ⟨c23, h4⟩, h5⟩ := h
  have hk5 := h5
  obtain ⟨hi, hx, hmo, hrc⟩ := h5
  have hi0 := hi.1
  have hi1 := hi.2.1
  have hi2 := hi.2.2.1
  have hi3 := hi.2.2.2.2.1
  obtain ⟨f, ba, ac, cr, ψ, bh, h56, h57, h58, h59, h60, hbh, h5c, hf7, hR⟩ := hpl
  have hm16 : mo ≤ 16 := by omega
  have hmo0 : mo ≤ S 0 3 := hmo
  refine z_start (lv := [.ref 4, .int x]) K_Wb_ways rfl rfl (Nat.le_refl _) (Nat.le_refl _) (Nat.le_of_ble_eq_true rfl) rfl ?_
  have h13 := h2
  have h13a := h2.1
  have hco := h1
  unfold isOb at hob
  refine z_mu (pl_id h56 h57 h58 h59 h5c).symm ?_
  refine z_il1 (pc' := 1) 0 rfl rfl ?_
  refine z_callS1 (pc' := 4) 1 rfl rfl k_Wb_203 (c_Wb_isPlanLength x) (by decide) (Nat.le_refl _) (Nat.le_refl _) rfl rfl (Nat.le_of_ble_eq_true rfl) ?_
  first | refine z_if_neB (pc' := 7) 2 rfl rfl (tgt := 9) rfl (fun h4 => ?_) (fun h4 => ?_) | refine z_if_neN (pc' := 7) 2 rfl rfl (tgt := 9) rfl (by omega) (fun h4 => ?_) (fun h4 => ?_) | refine z_if_ne (pc' := 7) 2 rfl rfl (tgt := 9) rfl (fun h4 => ?_) (fun h4 => ?_)
  · obtain ⟨x1, hx1, hx2, rfl⟩ := z_wi h4 (by decide) (by decide)
    refine z_al0 (pc' := 10) 5 rfl rfl ?_
    refine z_getf (pc' := 13) 6 rfl rfl f_Wb_43_11 (by first | (rw [pc5_o (by decide)]; first | exact pob_56 | exact pob_57 | exact pob_58 | exact pob_59 | (rw [pob_o (by decide)]; first | assumption | exact hco.1)) | exact (pc5_is (by omega)).1) (by rfl) ?_
    refine z_al0 (pc' := 14) 7 rfl rfl ?_
    refine z_getf (pc' := 17) 8 rfl rfl f_Wb_10_11 (by first | (rw [pc5_o (by decide)]; first | exact pob_56 | exact pob_57 | exact pob_58 | exact pob_59 | (rw [pob_o (by decide)]; first | assumption | exact hco.1)) | exact (pc5_is (by omega)).1) (by rfl) ?_
    refine z_il1 (pc' := 18) 9 rfl rfl ?_
    refine z_iconst (v := nI 0) (by decide) (pc' := 19) 10 rfl rfl ?_
    refine z_callV (pc' := 22) 11 rfl rfl k_Wb_206 (by first | (rw [pc5_o (by decide)]; first | exact pob_56 | exact pob_57 | exact pob_58 | exact pob_59 | (rw [pob_o (by decide)]; first | assumption | exact hco.1)) | exact (pc5_is (by omega)).1) (c_Pl_search (N := x1) (K := min x1 (S 0 3 - mo)) h1 hi h3 h3a h60 hbh h13 (by omega) rfl hmo0 hx) (by decide) (Nat.le_refl _) (Nat.le_refl _) rfl rfl (Nat.le_of_ble_eq_true rfl) (fun r19 μ19 h19 => ?_)
    obtain ⟨y0, f9, ba9, ac9, ψ9, y1, y2, y3, y5, y6⟩ := h19
    subst y0; subst y1
    obtain ⟨s0, s10, s1, s2, s4, s5, s7, s8, s9⟩ := y2
    have hf9 := y6.trans hf7
    dsimp only [Option.toList_none, List.nil_append]
    refine z_al0 (pc' := 23) 12 rfl rfl ?_
    refine z_getf (pc' := 26) 13 rfl rfl f_Wb_43_11 (by first | (rw [pc5_o (by decide)]; first | exact pob_56 | exact pob_57 | exact pob_58 | exact pob_59 | (rw [pob_o (by decide)]; first | assumption | exact hco.1)) | exact (pc5_is (by omega)).1) (by rfl) ?_
    refine z_getf (pc' := 29) 14 rfl rfl f_Wb_218_7 (by first | (rw [pc5_o (by decide)]; first | exact pob_56 | exact pob_57 | exact pob_58 | exact pob_59 | (rw [pob_o (by decide)]; first | assumption | exact hco.1)) | exact (pc5_is (by omega)).1) (by rfl) ?_
    refine z_te (show _ = (srF S D (nI 0) (min x1 (S 0 3 - mo)) (mo, pr, fa)).1.2.1 from s2) ?_
    exact z_ireturn 15 rfl rfl (by first | rfl | exact zbo_nar) rfl rfl (by refine ⟨by rw [f_ways, if_pos h4, tN_n (by omega)], isPl_of h60 hbh hf9 hR, fun i hi => by rw [pc5_o (by omega), pob_o (by omega)]⟩)
  · refine z_iconst (v := (-1)) (by decide) (pc' := 8) 3 rfl rfl ?_
    exact z_ireturn 4 rfl rfl (by first | rfl | exact zbo_nar) rfl rfl (by refine ⟨by rw [f_ways, if_neg h4], isPl_of h60 hbh hf7 hR, fun i hi => by rw [pc5_o (by omega), pob_o (by omega)]⟩)
set_option maxHeartbeats 4000000 in
set_option maxRecDepth 100000 in
theorem c_Wb_ith {G : zG} {n u : Nat} {μ : Nat → va_E} {κ : zκ} {kp : Int32} {ac : Value} (h : cst μ κ) (hob : isOb μ kp ac) {R : Nat} {rw : Nat → Int32} (hpl : isPl μ R rw) (x y : Int32) :
    zMet G 12 M_Wb_ith [.ref 4, .int x, .int y] n u μ n u (cKp μ κ (f_ith κ x y) R rw) := by
  obtain ⟨S, mo, pr, fa, sc, ch, rc, D⟩ := κ
  have hst := h
  obtain ⟨h1, ⟨cs, q, h2⟩, ⟨β, its, h3, h3a, h3b⟩, ⟨c23, h4⟩, h5⟩ := h
  have hk5 := h5
  obtain ⟨hi, hx, hmo, hrc⟩ := h5
  have hi0 := hi.1
  have hi1 := hi.2.1
  have hi2 := hi.2.2.1
  have hi3 := hi.2.2.2.2.1
  obtain ⟨f, ba, ac, cr, ψ, bh, h56, h57, h58, h59, h60, hbh, h5c, hf7, hR⟩ := hpl
  have hm16 : mo ≤ 16 := by omega
  have hmo0 : mo ≤ S 0 3 := hmo
  refine z_start (lv := [.ref 4, .int x, .int y]) K_Wb_ith rfl rfl (Nat.le_refl _) (Nat.le_refl _) (Nat.le_of_ble_eq_true rfl) rfl ?_
  have h13 := h2
  have h13a := h2.1
  have hco := h1
  unfold isOb at hob
  refine z_mu (pl_id h56 h57 h58 h59 h5c).symm ?_
  have h13c := h13
  refine z_il1 (pc' := 1) 0 rfl rfl ?_
  refine z_callS1 (pc' := 4) 1 rfl rfl k_Wb_203 (c_Wb_isPlanLength x) (by decide) (Nat.le_refl _) (Nat.le_refl _) rfl rfl (Nat.le_of_ble_eq_true rfl) ?_
  first | refine z_if_eqB (pc' := 7) 2 rfl rfl (tgt := 16) rfl (fun h4 => ?_) (fun h4 => ?_) | refine z_if_eqN (pc' := 7) 2 rfl rfl (tgt := 16) rfl (by omega) (fun h4 => ?_) (fun h4 => ?_) | refine z_if_eq (pc' := 7) 2 rfl rfl (tgt := 16) rfl (fun h4 => ?_) (fun h4 => ?_)
  · refine z_iconst (v := (-1)) (by decide) (pc' := 17) 8 rfl rfl ?_
    exact z_ireturn 9 rfl rfl (by first | rfl | exact zbo_nar) rfl rfl (by refine ⟨by rw [f_ith, if_neg h4], isPl_of h60 hbh hf7 hR, fun i hi => by rw [pc5_o (by omega), pob_o (by omega)]⟩)
  · refine z_il2 (pc' := 8) 3 rfl rfl ?_
    refine z_iconst (v := nI 0) (by decide) (pc' := 9) 4 rfl rfl ?_
    refine z_iconst (v := nI 3) (by decide) (pc' := 10) 5 rfl rfl ?_
    refine z_callS1 (pc' := 13) 6 rfl rfl k_Wb_72 (c_Wb_within _ _ _) (by decide) (Nat.le_refl _) (Nat.le_refl _) rfl rfl (Nat.le_of_ble_eq_true rfl) ?_
    first | refine z_if_neB (pc' := 16) 7 rfl rfl (tgt := 18) rfl (fun h13 => ?_) (fun h13 => ?_) | refine z_if_neN (pc' := 16) 7 rfl rfl (tgt := 18) rfl (by omega) (fun h13 => ?_) (fun h13 => ?_) | refine z_if_ne (pc' := 16) 7 rfl rfl (tgt := 18) rfl (fun h13 => ?_) (fun h13 => ?_)
    · have hyy := h13
      obtain ⟨x1, hx1, hx2, rfl⟩ := z_wi h4 (by decide) (by decide)
      obtain ⟨y1, hy1, hy2, rfl⟩ := z_wi hyy (by decide) (by decide)
      refine z_al0 (pc' := 19) 10 rfl rfl ?_
      refine z_getf (pc' := 22) 11 rfl rfl f_Wb_43_11 (by first | (rw [pc5_o (by decide)]; first | exact pob_56 | exact pob_57 | exact pob_58 | exact pob_59 | (rw [pob_o (by decide)]; first | assumption | exact hco.1)) | exact (pc5_is (by omega)).1) (by rfl) ?_
      refine z_al0 (pc' := 23) 12 rfl rfl ?_
      refine z_getf (pc' := 26) 13 rfl rfl f_Wb_10_11 (by first | (rw [pc5_o (by decide)]; first | exact pob_56 | exact pob_57 | exact pob_58 | exact pob_59 | (rw [pob_o (by decide)]; first | assumption | exact hco.1)) | exact (pc5_is (by omega)).1) (by rfl) ?_
      refine z_il1 (pc' := 27) 14 rfl rfl ?_
      refine z_iconst (v := nI 0) (by decide) (pc' := 28) 15 rfl rfl ?_
      refine z_callV (pc' := 31) 16 rfl rfl k_Wb_206 (by first | (rw [pc5_o (by decide)]; first | exact pob_56 | exact pob_57 | exact pob_58 | exact pob_59 | (rw [pob_o (by decide)]; first | assumption | exact hco.1)) | exact (pc5_is (by omega)).1) (c_Pl_search (N := x1) (K := min x1 (S 0 3 - mo)) h1 hi h3 h3a h60 hbh h13c (by omega) rfl hmo0 hx) (by decide) (Nat.le_refl _) (Nat.le_refl _) rfl rfl (Nat.le_of_ble_eq_true rfl) (fun r28 μ28 h28 => ?_)
      obtain ⟨z0, f9, ba9, ac9, ψ9, z1, z2, y3, y5, y6⟩ := h28
      subst z0; subst z1
      obtain ⟨s0, s10, s1, s2, s4, s5, s7, s8, s9⟩ := z2
      have hf9 := y6.trans hf7
      dsimp only [Option.toList_none, List.nil_append]
      refine z_il2 (pc' := 32) 17 rfl rfl ?_
      refine z_al0 (pc' := 33) 18 rfl rfl ?_
      refine z_getf (pc' := 36) 19 rfl rfl f_Wb_43_11 (by first | (rw [pc5_o (by decide)]; first | exact pob_56 | exact pob_57 | exact pob_58 | exact pob_59 | (rw [pob_o (by decide)]; first | assumption | exact hco.1)) | exact (pc5_is (by omega)).1) (by rfl) ?_
      refine z_getf (pc' := 39) 20 rfl rfl f_Wb_212_7 (by first | (rw [pc5_o (by decide)]; first | exact pob_56 | exact pob_57 | exact pob_58 | exact pob_59 | (rw [pob_o (by decide)]; first | assumption | exact hco.1)) | exact (pc5_is (by omega)).1) (by rfl) ?_
      refine z_te (show _ = nI (min x1 (S 0 3 - mo)) from s0) ?_
      first | refine z_icmp_geN (pc' := 42) 21 rfl rfl (tgt := 54) rfl (by omega) (by omega) (fun h39 => ?_) (fun h39 => ?_) | refine z_icmp_ge (pc' := 42) 21 rfl rfl (tgt := 54) rfl (fun h39 => ?_) (fun h39 => ?_)
      · refine z_bipush (v := (-3)) (by decide) (pc' := 56) 28 rfl rfl ?_
        exact z_ireturn 29 rfl rfl (by first | rfl | exact zbo_nar) rfl rfl (by refine ⟨by rw [f_ith, if_pos h4, if_pos hyy, tN_n (show x1 < 2 ^ 31 by omega), tN_n (show y1 < 2 ^ 31 by omega), if_neg (by omega)], isPl_of h60 hbh hf9 hR, fun i hi => by rw [pc5_o (by omega), pob_o (by omega)]⟩)
      · refine z_al0 (pc' := 43) 22 rfl rfl ?_
        refine z_getf (pc' := 46) 23 rfl rfl f_Wb_43_11 (by first | (rw [pc5_o (by decide)]; first | exact pob_56 | exact pob_57 | exact pob_58 | exact pob_59 | (rw [pob_o (by decide)]; first | assumption | exact hco.1)) | exact (pc5_is (by omega)).1) (by rfl) ?_
        refine z_getr (pc' := 49) 24 rfl rfl f_Wb_215_7 (by first | (rw [pc5_o (by decide)]; first | exact pob_56 | exact pob_57 | exact pob_58 | exact pob_59 | (rw [pob_o (by decide)]; first | assumption | exact hco.1)) | exact (pc5_is (by omega)).1) (by rfl) ?_
        refine z_il2 (pc' := 50) 25 rfl rfl ?_
        refine z_iald (pc' := 51) 26 rfl rfl (by first | (rw [pc5_o (by decide)]; first | exact pob_56 | exact pob_57 | exact pob_58 | exact pob_59 | (rw [pob_o (by decide)]; first | assumption | exact hco.1)) | exact (pc5_is (by omega)).1) (by omega) (by decide) ?_
        rw [s7 sr_pos y1 (by omega)]
        refine z_goto 27 rfl (tgt := 56) rfl ?_
        exact z_ireturn 29 rfl rfl (by first | rfl | exact zbo_nar) rfl rfl (by refine ⟨by rw [f_ith, if_pos h4, if_pos hyy, tN_n (show x1 < 2 ^ 31 by omega), tN_n (show y1 < 2 ^ 31 by omega), if_pos (by omega)], isPl_of h60 hbh hf9 hR, fun i hi => by rw [pc5_o (by omega), pob_o (by omega)]⟩)
    · refine z_iconst (v := (-1)) (by decide) (pc' := 17) 8 rfl rfl ?_
      exact z_ireturn 9 rfl rfl (by first | rfl | exact zbo_nar) rfl rfl (by refine ⟨by rw [f_ith, if_pos h4, if_neg h13], isPl_of h60 hbh hf7 hR, fun i hi => by rw [pc5_o (by omega), pob_o (by omega)]⟩)
set_option maxHeartbeats 4000000 in
set_option maxRecDepth 100000 in
theorem c_Wb_bound {G : zG} {n u : Nat} {μ : Nat → va_E} {κ : zκ} {kp : Int32} {ac : Value} (h : cst μ κ) (hob : isOb μ kp ac) {R : Nat} {rw : Nat → Int32} (hpl : isPl μ R rw) (x y : Int32) :
    zMet G 12 M_Wb_bound [.ref 4, .int x, .int y] n u μ n u (cKp μ κ (f_bound κ x y) R rw) := by
  obtain ⟨S, mo, pr, fa, sc, ch, rc, D⟩ := κ
  have hst := h
  obtain ⟨h1, ⟨cs, q, h2⟩, ⟨β, its, h3, h3a, h3b⟩, ⟨c23, h4⟩, h5⟩ := h
  have hk5 := h5
  obtain ⟨hi, hx, hmo, hrc⟩ := h5
  have hi0 := hi.1
  have hi1 := hi.2.1
  have hi2 := hi.2.2.1
  have hi3 := hi.2.2.2.2.1
  obtain ⟨f, ba, ac, cr, ψ, bh, h56, h57, h58, h59, h60, hbh, h5c, hf7, hR⟩ := hpl
  have hm16 : mo ≤ 16 := by omega
  have hmo0 : mo ≤ S 0 3 := hmo
  refine z_start (lv := [.ref 4, .int x, .int y]) K_Wb_bound rfl rfl (Nat.le_refl _) (Nat.le_refl _) (Nat.le_of_ble_eq_true rfl) rfl ?_
  have h13 := h2
  have h13a := h2.1
  have hco := h1
  unfold isOb at hob
  refine z_mu (pl_id h56 h57 h58 h59 h5c).symm ?_
  refine z_il1 (pc' := 1) 0 rfl rfl ?_
  refine z_callS1 (pc' := 4) 1 rfl rfl k_Wb_203 (c_Wb_isPlanLength x) (by decide) (Nat.le_refl _) (Nat.le_refl _) rfl rfl (Nat.le_of_ble_eq_true rfl) ?_
  first | refine z_if_eqB (pc' := 7) 2 rfl rfl (tgt := 15) rfl (fun h4 => ?_) (fun h4 => ?_) | refine z_if_eqN (pc' := 7) 2 rfl rfl (tgt := 15) rfl (by omega) (fun h4 => ?_) (fun h4 => ?_) | refine z_if_eq (pc' := 7) 2 rfl rfl (tgt := 15) rfl (fun h4 => ?_) (fun h4 => ?_)
  · refine z_iconst (v := (-1)) (by decide) (pc' := 16) 7 rfl rfl ?_
    exact z_ireturn 8 rfl rfl (by first | rfl | exact zbo_nar) rfl rfl (by refine ⟨by rw [f_bound, if_neg h4], isPl_of h60 hbh hf7 hR, fun i hi => by rw [pc5_o (by omega), pob_o (by omega)]⟩)
  · refine z_al0 (pc' := 8) 3 rfl rfl ?_
    refine z_il2 (pc' := 9) 4 rfl rfl ?_
    refine z_callV1 (pc' := 12) 5 rfl rfl k_Wb_221 (by first | (rw [pc5_o (by decide)]; first | exact pob_56 | exact pob_57 | exact pob_58 | exact pob_59 | (rw [pob_o (by decide)]; first | assumption | exact hco.1)) | exact (pc5_is (by omega)).1) (c_Wb_isSetOfGirls (isCo_fr h1 (fun i hi => by rw [pc5_o (by omega), pob_o (by omega)])) hi ⟨_, by rw [pc5_o (by decide), pob_o (by decide)]; exact hob⟩ y) (by decide) (Nat.le_refl _) (Nat.le_refl _) rfl rfl (Nat.le_of_ble_eq_true rfl) ?_
    first | refine z_if_neB (pc' := 15) 6 rfl rfl (tgt := 17) rfl (fun h12 => ?_) (fun h12 => ?_) | refine z_if_neN (pc' := 15) 6 rfl rfl (tgt := 17) rfl (by omega) (fun h12 => ?_) (fun h12 => ?_) | refine z_if_ne (pc' := 15) 6 rfl rfl (tgt := 17) rfl (fun h12 => ?_) (fun h12 => ?_)
    · obtain ⟨x1, hx1, hx2, rfl⟩ := z_wi h4 (by decide) (by decide)
      refine z_al0 (pc' := 18) 9 rfl rfl ?_
      refine z_getf (pc' := 21) 10 rfl rfl f_Wb_43_11 (by first | (rw [pc5_o (by decide)]; first | exact pob_56 | exact pob_57 | exact pob_58 | exact pob_59 | (rw [pob_o (by decide)]; first | assumption | exact hco.1)) | exact (pc5_is (by omega)).1) (by rfl) ?_
      refine z_al0 (pc' := 22) 11 rfl rfl ?_
      refine z_getf (pc' := 25) 12 rfl rfl f_Wb_10_11 (by first | (rw [pc5_o (by decide)]; first | exact pob_56 | exact pob_57 | exact pob_58 | exact pob_59 | (rw [pob_o (by decide)]; first | assumption | exact hco.1)) | exact (pc5_is (by omega)).1) (by rfl) ?_
      refine z_il1 (pc' := 26) 13 rfl rfl ?_
      refine z_il2 (pc' := 27) 14 rfl rfl ?_
      refine z_callV (pc' := 30) 15 rfl rfl k_Wb_206 (by first | (rw [pc5_o (by decide)]; first | exact pob_56 | exact pob_57 | exact pob_58 | exact pob_59 | (rw [pob_o (by decide)]; first | assumption | exact hco.1)) | exact (pc5_is (by omega)).1) (c_Pl_search (N := x1) (K := min x1 (S 0 3 - mo)) h1 hi h3 h3a h60 hbh h13 (by omega) rfl hmo0 hx) (by decide) (Nat.le_refl _) (Nat.le_refl _) rfl rfl (Nat.le_of_ble_eq_true rfl) (fun r27 μ27 h27 => ?_)
      obtain ⟨y0, f9, ba9, ac9, ψ9, y1, y2, y3, y5, y6⟩ := h27
      subst y0; subst y1
      obtain ⟨s0, s10, s1, s2, s4, s5, s7, s8, s9⟩ := y2
      have hf9 := y6.trans hf7
      dsimp only [Option.toList_none, List.nil_append]
      refine z_al0 (pc' := 31) 16 rfl rfl ?_
      refine z_getf (pc' := 34) 17 rfl rfl f_Wb_43_11 (by first | (rw [pc5_o (by decide)]; first | exact pob_56 | exact pob_57 | exact pob_58 | exact pob_59 | (rw [pob_o (by decide)]; first | assumption | exact hco.1)) | exact (pc5_is (by omega)).1) (by rfl) ?_
      refine z_getf (pc' := 37) 18 rfl rfl f_Wb_224_7 (by first | (rw [pc5_o (by decide)]; first | exact pob_56 | exact pob_57 | exact pob_58 | exact pob_59 | (rw [pob_o (by decide)]; first | assumption | exact hco.1)) | exact (pc5_is (by omega)).1) (by rfl) ?_
      refine z_te (show _ = nI (srF S D y (min x1 (S 0 3 - mo)) (mo, pr, fa)).2.1 from s4) ?_
      refine z_iconst (v := nI 4) (by decide) (pc' := 38) 19 rfl rfl ?_
      first | refine z_icmp_gtN (pc' := 41) 20 rfl rfl (tgt := 51) rfl (by omega) (by omega) (fun h38 => ?_) (fun h38 => ?_) | refine z_icmp_gt (pc' := 41) 20 rfl rfl (tgt := 51) rfl (fun h38 => ?_) (fun h38 => ?_)
      · refine z_bipush (v := (-3)) (by decide) (pc' := 53) 25 rfl rfl ?_
        exact z_ireturn 26 rfl rfl (by first | rfl | exact zbo_nar) rfl rfl (by refine ⟨by rw [f_bound, if_pos h4, if_pos h12, tN_n (show x1 < 2 ^ 31 by omega), if_neg (by omega)], isPl_of h60 hbh hf9 hR, fun i hi => by rw [pc5_o (by omega), pob_o (by omega)]⟩)
      · refine z_al0 (pc' := 42) 21 rfl rfl ?_
        refine z_getf (pc' := 45) 22 rfl rfl f_Wb_43_11 (by first | (rw [pc5_o (by decide)]; first | exact pob_56 | exact pob_57 | exact pob_58 | exact pob_59 | (rw [pob_o (by decide)]; first | assumption | exact hco.1)) | exact (pc5_is (by omega)).1) (by rfl) ?_
        refine z_getf (pc' := 48) 23 rfl rfl f_Wb_224_7 (by first | (rw [pc5_o (by decide)]; first | exact pob_56 | exact pob_57 | exact pob_58 | exact pob_59 | (rw [pob_o (by decide)]; first | assumption | exact hco.1)) | exact (pc5_is (by omega)).1) (by rfl) ?_
        refine z_te (show _ = nI (srF S D y (min x1 (S 0 3 - mo)) (mo, pr, fa)).2.1 from s4) ?_
        refine z_goto 24 rfl (tgt := 53) rfl ?_
        exact z_ireturn 26 rfl rfl (by first | rfl | exact zbo_nar) rfl rfl (by refine ⟨by rw [f_bound, if_pos h4, if_pos h12, tN_n (show x1 < 2 ^ 31 by omega), if_pos h38], isPl_of h60 hbh hf9 hR, fun i hi => by rw [pc5_o (by omega), pob_o (by omega)]⟩)
    · refine z_iconst (v := (-1)) (by decide) (pc' := 16) 7 rfl rfl ?_
      exact z_ireturn 8 rfl rfl (by first | rfl | exact zbo_nar) rfl rfl (by refine ⟨by rw [f_bound, if_pos h4, if_neg h12], isPl_of h60 hbh hf7 hR, fun i hi => by rw [pc5_o (by omega), pob_o (by omega)]⟩)
set_option maxHeartbeats 4000000 in
set_option maxRecDepth 100000 in
theorem c_Wb_bars {G : zG} {n u : Nat} {μ : Nat → va_E} {κ : zκ} {kp : Int32} {ac : Value} (h : cst μ κ) (hob : isOb μ kp ac) {R : Nat} {rw : Nat → Int32} (hpl : isPl μ R rw) (x y : Int32) :
    zMet G 12 M_Wb_bars [.ref 4, .int x, .int y] n u μ n u (cKp μ κ (f_bars κ x y) R rw) := by
  obtain ⟨S, mo, pr, fa, sc, ch, rc, D⟩ := κ
  have hst := h
  obtain ⟨h1, ⟨cs, q, h2⟩, ⟨β, its, h3, h3a, h3b⟩, ⟨c23, h4⟩, h5⟩ := h
  have hk5 := h5
  obtain ⟨hi, hx, hmo, hrc⟩ := h5
  have hi0 := hi.1
  have hi1 := hi.2.1
  have hi2 := hi.2.2.1
  have hi3 := hi.2.2.2.2.1
  obtain ⟨f, ba, ac, cr, ψ, bh, h56, h57, h58, h59, h60, hbh, h5c, hf7, hR⟩ := hpl
  have hm16 : mo ≤ 16 := by omega
  have hmo0 : mo ≤ S 0 3 := hmo
  refine z_start (lv := [.ref 4, .int x, .int y, .retAddr 0]) K_Wb_bars rfl rfl (Nat.le_refl _) (Nat.le_refl _) (Nat.le_of_ble_eq_true rfl) rfl ?_
  have h13 := h2
  have h13a := h2.1
  have hco := h1
  unfold isOb at hob
  refine z_mu (pl_id h56 h57 h58 h59 h5c).symm ?_
  refine z_il1 (pc' := 1) 0 rfl rfl ?_
  refine z_callS1 (pc' := 4) 1 rfl rfl k_Wb_203 (c_Wb_isPlanLength x) (by decide) (Nat.le_refl _) (Nat.le_refl _) rfl rfl (Nat.le_of_ble_eq_true rfl) ?_
  first | refine z_if_eqB (pc' := 7) 2 rfl rfl (tgt := 15) rfl (fun h4 => ?_) (fun h4 => ?_) | refine z_if_eqN (pc' := 7) 2 rfl rfl (tgt := 15) rfl (by omega) (fun h4 => ?_) (fun h4 => ?_) | refine z_if_eq (pc' := 7) 2 rfl rfl (tgt := 15) rfl (fun h4 => ?_) (fun h4 => ?_)
  · refine z_iconst (v := (-1)) (by decide) (pc' := 16) 7 rfl rfl ?_
    exact z_ireturn 8 rfl rfl (by first | rfl | exact zbo_nar) rfl rfl (by refine ⟨by rw [f_bars, if_neg h4], isPl_of h60 hbh hf7 hR, fun i hi => by rw [pc5_o (by omega), pob_o (by omega)]⟩)
  · refine z_al0 (pc' := 8) 3 rfl rfl ?_
    refine z_il2 (pc' := 9) 4 rfl rfl ?_
    refine z_callV1 (pc' := 12) 5 rfl rfl k_Wb_221 (by first | (rw [pc5_o (by decide)]; first | exact pob_56 | exact pob_57 | exact pob_58 | exact pob_59 | (rw [pob_o (by decide)]; first | assumption | exact hco.1)) | exact (pc5_is (by omega)).1) (c_Wb_isSetOfGirls (isCo_fr h1 (fun i hi => by rw [pc5_o (by omega), pob_o (by omega)])) hi ⟨_, by rw [pc5_o (by decide), pob_o (by decide)]; exact hob⟩ y) (by decide) (Nat.le_refl _) (Nat.le_refl _) rfl rfl (Nat.le_of_ble_eq_true rfl) ?_
    first | refine z_if_neB (pc' := 15) 6 rfl rfl (tgt := 17) rfl (fun h12 => ?_) (fun h12 => ?_) | refine z_if_neN (pc' := 15) 6 rfl rfl (tgt := 17) rfl (by omega) (fun h12 => ?_) (fun h12 => ?_) | refine z_if_ne (pc' := 15) 6 rfl rfl (tgt := 17) rfl (fun h12 => ?_) (fun h12 => ?_)
    · obtain ⟨x1, hx1, hx2, rfl⟩ := z_wi h4 (by decide) (by decide)
      have hp2 : 2 ^ S 0 0 ≤ 2 ^ 6 := Nat.pow_le_pow_right (by decide) hi0
      have hp3 : 0 < 2 ^ S 0 0 := Nat.two_pow_pos _
      obtain ⟨w1, hw1, hw2, rfl⟩ := z_wi h12 (by omega) (by decide)
      refine z_al0 (pc' := 18) 9 rfl rfl ?_
      refine z_getf (pc' := 21) 10 rfl rfl f_Wb_43_11 (by first | (rw [pc5_o (by decide)]; first | exact pob_56 | exact pob_57 | exact pob_58 | exact pob_59 | (rw [pob_o (by decide)]; first | assumption | exact hco.1)) | exact (pc5_is (by omega)).1) (by rfl) ?_
      refine z_al0 (pc' := 22) 11 rfl rfl ?_
      refine z_getf (pc' := 25) 12 rfl rfl f_Wb_10_11 (by first | (rw [pc5_o (by decide)]; first | exact pob_56 | exact pob_57 | exact pob_58 | exact pob_59 | (rw [pob_o (by decide)]; first | assumption | exact hco.1)) | exact (pc5_is (by omega)).1) (by rfl) ?_
      refine z_il1 (pc' := 26) 13 rfl rfl ?_
      refine z_il2 (pc' := 27) 14 rfl rfl ?_
      refine z_callV (pc' := 30) 15 rfl rfl k_Wb_206 (by first | (rw [pc5_o (by decide)]; first | exact pob_56 | exact pob_57 | exact pob_58 | exact pob_59 | (rw [pob_o (by decide)]; first | assumption | exact hco.1)) | exact (pc5_is (by omega)).1) (c_Pl_search (N := x1) (K := min x1 (S 0 3 - mo)) h1 hi h3 h3a h60 hbh h13 (by omega) rfl hmo0 hx) (by decide) (Nat.le_refl _) (Nat.le_refl _) rfl rfl (Nat.le_of_ble_eq_true rfl) (fun r27 μ27 h27 => ?_)
      obtain ⟨y0, f9, ba9, ac9, ψ9, y1, y2, y3, y5, y6⟩ := h27
      subst y0; subst y1
      obtain ⟨s0, s10, s1, s2, s4, s5, s7, s8, s9⟩ := y2
      have hf9 := y6.trans hf7
      dsimp only [Option.toList_none, List.nil_append]
      have hE := sr_ev hi (D := D) (set := nI w1) (K := min x1 (S 0 3 - mo)) (t := (mo, pr, fa))
      have hbd := bdf_lt (j := w1) (e := (srF S D (nI w1) (min x1 (S 0 3 - mo)) (mo, pr, fa)).2.2) (n := 64) (by omega)
      refine z_il2 (pc' := 31) 16 rfl rfl ?_
      refine z_al0 (pc' := 32) 17 rfl rfl ?_
      refine z_getf (pc' := 35) 18 rfl rfl f_Wb_43_11 (by first | (rw [pc5_o (by decide)]; first | exact pob_56 | exact pob_57 | exact pob_58 | exact pob_59 | (rw [pob_o (by decide)]; first | assumption | exact hco.1)) | exact (pc5_is (by omega)).1) (by rfl) ?_
      refine z_getf (pc' := 38) 19 rfl rfl f_Wb_227_7 (by first | (rw [pc5_o (by decide)]; first | exact pob_56 | exact pob_57 | exact pob_58 | exact pob_59 | (rw [pob_o (by decide)]; first | assumption | exact hco.1)) | exact (pc5_is (by omega)).1) (by rfl) ?_
      refine z_te (show _ = nI (srF S D (nI w1) (min x1 (S 0 3 - mo)) (mo, pr, fa)).2.2 from s5) ?_
      refine z_iconst (v := (-1)) (by decide) (pc' := 39) 20 rfl rfl ?_
      refine z_ixor (pc' := 40) 21 rfl rfl ?_
      refine z_iand (pc' := 41) 22 rfl rfl ?_
      rw [bdf_e _ (by omega) _ hE]
      refine z_is3 rfl rfl (pc' := 42) 23 rfl rfl ?_
      refine z_il3 (pc' := 43) 24 rfl rfl ?_
      first | refine z_if_neB (pc' := 46) 25 rfl rfl (tgt := 51) rfl (fun h43 => ?_) (fun h43 => ?_) | refine z_if_neN (pc' := 46) 25 rfl rfl (tgt := 51) rfl (by omega) (fun h43 => ?_) (fun h43 => ?_) | refine z_if_ne (pc' := 46) 25 rfl rfl (tgt := 51) rfl (fun h43 => ?_) (fun h43 => ?_)
      · refine z_il3 (pc' := 52) 28 rfl rfl ?_
        refine z_callS1 (pc' := 55) 29 rfl rfl k_Wb_230 (c_Ji_numberOfTrailingZeros (bdf_lt (by omega)) h43) (by decide) (Nat.le_refl _) (Nat.le_refl _) rfl rfl (Nat.le_of_ble_eq_true rfl) ?_
        exact z_ireturn 30 rfl rfl (by first | rfl | exact zbo_nar) rfl rfl (by refine ⟨by rw [f_bars, if_pos h4, if_pos h12, tN_n (show x1 < 2 ^ 31 by omega), tN_n (show w1 < 2 ^ 31 by omega), if_neg h43], isPl_of h60 hbh hf9 hR, fun i hi => by rw [pc5_o (by omega), pob_o (by omega)]⟩)
      · refine z_bipush (v := (-3)) (by decide) (pc' := 48) 26 rfl rfl ?_
        refine z_goto 27 rfl (tgt := 55) rfl ?_
        exact z_ireturn 30 rfl rfl (by first | rfl | exact zbo_nar) rfl rfl (by refine ⟨by rw [f_bars, if_pos h4, if_pos h12, tN_n (show x1 < 2 ^ 31 by omega), tN_n (show w1 < 2 ^ 31 by omega), if_pos h43], isPl_of h60 hbh hf9 hR, fun i hi => by rw [pc5_o (by omega), pob_o (by omega)]⟩)
    · refine z_iconst (v := (-1)) (by decide) (pc' := 16) 7 rfl rfl ?_
      exact z_ireturn 8 rfl rfl (by first | rfl | exact zbo_nar) rfl rfl (by refine ⟨by rw [f_bars, if_pos h4, if_neg h12], isPl_of h60 hbh hf7 hR, fun i hi => by rw [pc5_o (by omega), pob_o (by omega)]⟩)
