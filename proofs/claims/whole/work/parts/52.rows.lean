/-! ===== rows ===== -/
def rwA (S : Nat → Nat → Nat) (D : zD6) (K b : Nat) : Nat → Nat → zT3 → (Nat → Int32) → (Nat → Int32)
  | 0, _, _, rw => rw
  | j + 1, k, t, rw => rwA S D K b j (k + 1) (stp S D (dgt (S 0 0 + 1) (K - 1 - k) b) t) (upd (upd (upd rw (3 * k) (nI (dgt (S 0 0 + 1) (K - 1 - k) b))) (3 * k + 1) (nI (wor S D (dgt (S 0 0 + 1) (K - 1 - k) b) t))) (3 * k + 2) (nI (psN (stp S D (dgt (S 0 0 + 1) (K - 1 - k) b) t).2.1 (S 0 0))))
def jdA (S : Nat → Nat → Nat) (D : zD6) (rw : Nat → Int32) : Nat → Nat → zT3 → Int32
  | 0, _, _ => nI 0
  | j + 1, k, t => if t.1 < S 0 3 ∧ (0 ≤ rw (3 * k) ∧ rw (3 * k) ≤ nI (S 0 0)) ∧ rw (3 * k + 1) = nI (wor S D (tN (rw (3 * k))) t) ∧ rw (3 * k + 2) = nI (psN (stp S D (tN (rw (3 * k))) t).2.1 (S 0 0)) then jdA S D rw j (k + 1) (stp S D (tN (rw (3 * k))) t) else nI (k + 1)
def r_prove : zκ → Int32 → Nat → (Nat → Int32) → Int32 × Nat × (Nat → Int32)
  | (S, mo, pr, fa, _, _, _, D), x, R, rw => if nI 0 ≤ x ∧ x ≤ nI 4 then (nI (min (tN x) (S 0 3 - mo)), min (tN x) (S 0 3 - mo), rwA S D (min (tN x) (S 0 3 - mo)) (srF S D (nI 0) (min (tN x) (S 0 3 - mo)) (mo, pr, fa)).1.2.2 (min (tN x) (S 0 3 - mo)) 0 (mo, pr, fa) rw) else (-1, R, rw)
def r_row (R : Nat) (rw : Nat → Int32) (x y : Int32) : Int32 := if (0 ≤ x ∧ x < nI R) ∧ (nI 0 ≤ y ∧ y ≤ nI 2) then rw (3 * tN x + tN y) else -9
def r_alter (R : Nat) (rw : Nat → Int32) (x y v : Int32) : Nat → Int32 := if (0 ≤ x ∧ x < nI R) ∧ (nI 0 ≤ y ∧ y ≤ nI 2) then upd rw (3 * tN x + tN y) v else rw
def f_judge : zκ → Nat → (Nat → Int32) → Int32
  | (S, mo, pr, fa, _, _, _, D), R, rw => jdA S D rw R 0 (mo, pr, fa)
set_option maxHeartbeats 4000000 in
set_option maxRecDepth 100000 in
theorem l_Pl_writeRows {G : zG} {n u : Nat} {ν : Nat → va_E} {S : Nat → Nat → Nat} {sc ch : Int32} {bh : Nat → Option Nat} {β : Nat → Nat → Nat} {its : Nat → zI} {D : zD6} {f ba ac : Nat → Int32} (hco : isCo ν S sc ch) (hi : iS S) (hbk : isBk ν 17 β) (hD : dzB β its D) (h60 : ν 60 = .inl (3, 5, .inr (.inr (.inr (.inr bh))))) (hbh : ∀ j, j < 5 → bh j = some (61 + 4 * j)) {K b : Nat} (hK : K ≤ 4) (hba : ∀ i, i < K → ba i = nI (dgt (S 0 0 + 1) (K - 1 - i) b)) (hf0 : f 0 = nI K) {Φ : zP} : ∀ j k t (rw : Nat → Int32) (ψ : Nat → zC5), k + j = K → t.1 + j ≤ 16 → iX S t.2.1 t.2.2 → atC (ψ 0) t → (∀ ψ : Nat → zC5, zW G 5 M_Pl_writeRows 79 [.ref 56, .ref 61, .int (nI K)] [] n u (pc5 (pob ν f (.ref 5) ba (rwA S D K b j k t rw) ac) ψ) n u Φ) →
    zW G 5 M_Pl_writeRows 9 [.ref 56, .ref 61, .int (nI k)] [] n u (pc5 (pob ν f (.ref 5) ba rw ac) ψ) n u Φ
  | 0, k, t, rw, ψ, e, ht, hx, hc, Kk => by
    obtain rfl : k = K := by omega
    refine z_il2 (pc' := 10) 7 rfl rfl ?_
    refine z_al0 (pc' := 11) 8 rfl rfl ?_
    refine z_getf (pc' := 14) 9 rfl rfl f_Pl_45_7 (by first | (rw [pc5_o (by decide)]; first | exact pob_56 | exact pob_57 | exact pob_58 | exact pob_59 | (rw [pob_o (by decide)]; first | assumption | exact hco.1)) | exact (pc5_is (by omega)).1) (by rfl) ?_
    rw [hf0]
    first | refine z_icmp_geN (pc' := 17) 10 rfl rfl (tgt := 79) rfl (by omega) (by omega) (fun h14 => ?_) (fun h14 => ?_) | refine z_icmp_ge (pc' := 17) 10 rfl rfl (tgt := 79) rfl (fun h14 => ?_) (fun h14 => ?_)
    · exact Kk ψ
    · exfalso; omega
  | j + 1, k, t, rw, ψ, e, ht, hx, hc, Kk => by
    have hi0 := hi.1
    obtain ⟨q1, q2, q3⟩ := hc
    have hd := dgt_lt (N := S 0 0 + 1) (r := K - 1 - k) (p := b) (by omega)
    have hx2 := iX_stp hi (D := D) (act := dgt (S 0 0 + 1) (K - 1 - k) b) hx
    refine z_il2 (pc' := 10) 7 rfl rfl ?_
    refine z_al0 (pc' := 11) 8 rfl rfl ?_
    refine z_getf (pc' := 14) 9 rfl rfl f_Pl_45_7 (by first | (rw [pc5_o (by decide)]; first | exact pob_56 | exact pob_57 | exact pob_58 | exact pob_59 | (rw [pob_o (by decide)]; first | assumption | exact hco.1)) | exact (pc5_is (by omega)).1) (by rfl) ?_
    rw [hf0]
    first | refine z_icmp_geN (pc' := 17) 10 rfl rfl (tgt := 79) rfl (by omega) (by omega) (fun h14 => ?_) (fun h14 => ?_) | refine z_icmp_ge (pc' := 17) 10 rfl rfl (tgt := 79) rfl (fun h14 => ?_) (fun h14 => ?_)
    · exfalso; omega
    · refine z_al0 (pc' := 18) 11 rfl rfl ?_
      refine z_getf (pc' := 21) 12 rfl rfl f_Pl_15_7 (by first | (rw [pc5_o (by decide)]; first | exact pob_56 | exact pob_57 | exact pob_58 | exact pob_59 | (rw [pob_o (by decide)]; first | assumption | exact hco.1)) | exact (pc5_is (by omega)).1) (by rfl) ?_
      refine z_iconst (v := nI 3) (by decide) (pc' := 22) 13 rfl rfl ?_
      refine z_il2 (pc' := 23) 14 rfl rfl ?_
      first | refine z_imulN (pc' := 24) 15 rfl rfl ?_ | refine z_imul (pc' := 24) 15 rfl rfl ?_
      refine z_al0 (pc' := 25) 16 rfl rfl ?_
      refine z_getf (pc' := 28) 17 rfl rfl f_Pl_9_7 (by first | (rw [pc5_o (by decide)]; first | exact pob_56 | exact pob_57 | exact pob_58 | exact pob_59 | (rw [pob_o (by decide)]; first | assumption | exact hco.1)) | exact (pc5_is (by omega)).1) (by rfl) ?_
      refine z_il2 (pc' := 29) 18 rfl rfl ?_
      refine z_iald (pc' := 30) 19 rfl rfl (by first | (rw [pc5_o (by decide)]; first | exact pob_56 | exact pob_57 | exact pob_58 | exact pob_59 | (rw [pob_o (by decide)]; first | assumption | exact hco.1)) | exact (pc5_is (by omega)).1) (by omega) (by decide) ?_
      rw [hba k (by omega)]
      refine z_iast (pc' := 31) 20 rfl rfl (by first | (rw [pc5_o (by decide)]; first | exact pob_56 | exact pob_57 | exact pob_58 | exact pob_59 | (rw [pob_o (by decide)]; first | assumption | exact hco.1)) | exact (pc5_is (by omega)).1) (by omega) (by decide) ?_
      rw [pc5_z (by decide), pob_s58]
      refine z_al0 (pc' := 32) 21 rfl rfl ?_
      refine z_getf (pc' := 35) 22 rfl rfl f_Pl_15_7 (by first | (rw [pc5_o (by decide)]; first | exact pob_56 | exact pob_57 | exact pob_58 | exact pob_59 | (rw [pob_o (by decide)]; first | assumption | exact hco.1)) | exact (pc5_is (by omega)).1) (by rfl) ?_
      refine z_iconst (v := nI 3) (by decide) (pc' := 36) 23 rfl rfl ?_
      refine z_il2 (pc' := 37) 24 rfl rfl ?_
      first | refine z_imulN (pc' := 38) 25 rfl rfl ?_ | refine z_imul (pc' := 38) 25 rfl rfl ?_
      refine z_iconst (v := nI 1) (by decide) (pc' := 39) 26 rfl rfl ?_
      first | refine z_iaddN (pc' := 40) 27 rfl rfl ?_ | refine z_iadd (pc' := 40) 27 rfl rfl ?_
      refine z_al1 (pc' := 41) 28 rfl rfl ?_
      refine z_al0 (pc' := 42) 29 rfl rfl ?_
      refine z_getf (pc' := 45) 30 rfl rfl f_Pl_28_7 (by first | (rw [pc5_o (by decide)]; first | exact pob_56 | exact pob_57 | exact pob_58 | exact pob_59 | (rw [pob_o (by decide)]; first | assumption | exact hco.1)) | exact (pc5_is (by omega)).1) (by rfl) ?_
      refine z_al0 (pc' := 46) 31 rfl rfl ?_
      refine z_getf (pc' := 49) 32 rfl rfl f_Pl_9_7 (by first | (rw [pc5_o (by decide)]; first | exact pob_56 | exact pob_57 | exact pob_58 | exact pob_59 | (rw [pob_o (by decide)]; first | assumption | exact hco.1)) | exact (pc5_is (by omega)).1) (by rfl) ?_
      refine z_il2 (pc' := 50) 33 rfl rfl ?_
      refine z_iald (pc' := 51) 34 rfl rfl (by first | (rw [pc5_o (by decide)]; first | exact pob_56 | exact pob_57 | exact pob_58 | exact pob_59 | (rw [pob_o (by decide)]; first | assumption | exact hco.1)) | exact (pc5_is (by omega)).1) (by omega) (by decide) ?_
      rw [hba k (by omega)]
      refine z_callVX1 (pc' := 54) 35 rfl rfl k_Pl_79 (by exact (pc5_is (i := 0) (by decide)).1) (c_passes5 (i := 0) (isCo_fr hco (fun i hi => pob_o (by omega))) hi (isBk_fr hbk (fun j a b => pob_o (by omega))) hD (by decide) (by omega) (by omega) (by rw [q2, q3]; exact hx)) (by decide) (Nat.le_refl _) (Nat.le_refl _) rfl rfl (Nat.le_of_ble_eq_true rfl) (fun q51 => ?_)
      rw [q1, q2, q3]
      refine z_iast (pc' := 55) 36 rfl rfl (by first | (rw [pc5_o (by decide)]; first | exact pob_56 | exact pob_57 | exact pob_58 | exact pob_59 | (rw [pob_o (by decide)]; first | assumption | exact hco.1)) | exact (pc5_is (by omega)).1) (by omega) (by decide) ?_
      rw [pc5_z (by decide), pob_s58]
      refine z_al0 (pc' := 56) 37 rfl rfl ?_
      refine z_getf (pc' := 59) 38 rfl rfl f_Pl_15_7 (by first | (rw [pc5_o (by decide)]; first | exact pob_56 | exact pob_57 | exact pob_58 | exact pob_59 | (rw [pob_o (by decide)]; first | assumption | exact hco.1)) | exact (pc5_is (by omega)).1) (by rfl) ?_
      refine z_iconst (v := nI 3) (by decide) (pc' := 60) 39 rfl rfl ?_
      refine z_il2 (pc' := 61) 40 rfl rfl ?_
      first | refine z_imulN (pc' := 62) 41 rfl rfl ?_ | refine z_imul (pc' := 62) 41 rfl rfl ?_
      refine z_iconst (v := nI 2) (by decide) (pc' := 63) 42 rfl rfl ?_
      first | refine z_iaddN (pc' := 64) 43 rfl rfl ?_ | refine z_iadd (pc' := 64) 43 rfl rfl ?_
      refine z_al1 (pc' := 65) 44 rfl rfl ?_
      refine z_al0 (pc' := 66) 45 rfl rfl ?_
      refine z_getf (pc' := 69) 46 rfl rfl f_Pl_28_7 (by first | (rw [pc5_o (by decide)]; first | exact pob_56 | exact pob_57 | exact pob_58 | exact pob_59 | (rw [pob_o (by decide)]; first | assumption | exact hco.1)) | exact (pc5_is (by omega)).1) (by rfl) ?_
      refine z_callV1 (pc' := 72) 47 rfl rfl k_Pl_92 (by exact (pc5_is (i := 0) (by decide)).1) (c_pset5 (i := 0) (isCo_fr hco (fun i hi => pob_o (by omega))) hi (by decide) (fun j => (hx2 j).1)) (by decide) (Nat.le_refl _) (Nat.le_refl _) rfl rfl (Nat.le_of_ble_eq_true rfl) ?_
      refine z_iast (pc' := 73) 48 rfl rfl (by first | (rw [pc5_o (by decide)]; first | exact pob_56 | exact pob_57 | exact pob_58 | exact pob_59 | (rw [pob_o (by decide)]; first | assumption | exact hco.1)) | exact (pc5_is (by omega)).1) (by omega) (by decide) ?_
      rw [pc5_z (by decide), pob_s58]
      first | refine z_inc2N rfl rfl (pc' := 76) 49 rfl rfl ?_ | refine z_inc2 rfl rfl rfl (pc' := 76) 49 rfl rfl ?_
      refine z_goto 50 rfl (tgt := 9) rfl ?_
      exact l_Pl_writeRows hco hi hbk hD h60 hbh hK hba hf0 j (k + 1) (stp S D (dgt (S 0 0 + 1) (K - 1 - k) b) t) _ _ (by omega) (by show t.1 + 1 + j ≤ 16; omega) hx2 ⟨rfl, rfl, rfl⟩ Kk
set_option maxHeartbeats 4000000 in
set_option maxRecDepth 100000 in
theorem c_Pl_writeRows {G : zG} {n u : Nat} {ν : Nat → va_E} {S : Nat → Nat → Nat} {sc ch : Int32} {bh : Nat → Option Nat} {β : Nat → Nat → Nat} {its : Nat → zI} {D : zD6} {f ba ac : Nat → Int32} (hco : isCo ν S sc ch) (hi : iS S) (hbk : isBk ν 17 β) (hD : dzB β its D) (h60 : ν 60 = .inl (3, 5, .inr (.inr (.inr (.inr bh))))) (hbh : ∀ j, j < 5 → bh j = some (61 + 4 * j)) {K b : Nat} (hK : K ≤ 4) (hba : ∀ i, i < K → ba i = nI (dgt (S 0 0 + 1) (K - 1 - i) b)) (hf0 : f 0 = nI K) {t : zT3} {rw : Nat → Int32} {ψ : Nat → zC5} (ht : t.1 + K ≤ 16) (hx : iX S t.2.1 t.2.2) (hc : atC (ψ 0) t) : zMet G 5 M_Pl_writeRows [.ref 56] n u (pc5 (pob ν f (.ref 5) ba rw ac) ψ) n u (fun r μ' => r = some (.int (nI K)) ∧ ∃ ψ' : Nat → zC5, μ' = pc5 (pob ν (un f 7 (nI K)) (.ref 5) ba (rwA S D K b K 0 t rw) ac) ψ') := by
  refine z_start (lv := [.ref 56, .retAddr 0, .retAddr 0]) K_Pl_writeRows rfl rfl (Nat.le_refl _) (Nat.le_refl _) (Nat.le_of_ble_eq_true rfl) rfl ?_
  refine z_al0 (pc' := 1) 0 rfl rfl ?_
  refine z_getf (pc' := 4) 1 rfl rfl f_Pl_23_7 (by first | (rw [pc5_o (by decide)]; first | exact pob_56 | exact pob_57 | exact pob_58 | exact pob_59 | (rw [pob_o (by decide)]; first | assumption | exact hco.1)) | exact (pc5_is (by omega)).1) (by rfl) ?_
  refine z_iconst (v := nI 0) (by decide) (pc' := 5) 2 rfl rfl ?_
  refine z_aald (pc' := 6) 3 rfl rfl (by first | (rw [pc5_o (by decide)]; first | exact pob_56 | exact pob_57 | exact pob_58 | exact pob_59 | (rw [pob_o (by decide)]; first | assumption | exact hco.1)) | exact (pc5_is (by omega)).1) (by omega) (by decide) (by exact hbh 0 (by decide)) ?_
  refine z_as1 rfl rfl (pc' := 7) 4 rfl rfl ?_
  refine z_iconst (v := nI 0) (by decide) (pc' := 8) 5 rfl rfl ?_
  refine z_is2 rfl rfl (pc' := 9) 6 rfl rfl ?_
  refine l_Pl_writeRows hco hi hbk hD h60 hbh hK hba hf0 K 0 t rw ψ (by omega) ht hx hc (fun ψ9 => ?_)
  refine z_al0 (pc' := 80) 51 rfl rfl ?_
  refine z_al0 (pc' := 81) 52 rfl rfl ?_
  refine z_getf (pc' := 84) 53 rfl rfl f_Pl_45_7 (by first | (rw [pc5_o (by decide)]; first | exact pob_56 | exact pob_57 | exact pob_58 | exact pob_59 | (rw [pob_o (by decide)]; first | assumption | exact hco.1)) | exact (pc5_is (by omega)).1) (by rfl) ?_
  rw [hf0]
  refine z_putf (pc' := 87) 54 rfl rfl f_Pl_103_7 (by first | (rw [pc5_o (by decide)]; first | exact pob_56 | exact pob_57 | exact pob_58 | exact pob_59 | (rw [pob_o (by decide)]; first | assumption | exact hco.1)) | exact (pc5_is (by omega)).1) rfl rfl (by rfl) (by rfl) ?_
  dsimp only [List.set]
  rw [obP_7, pc5_z (by decide), pob_s56]
  refine z_al0 (pc' := 88) 55 rfl rfl ?_
  refine z_getf (pc' := 91) 56 rfl rfl f_Pl_103_7 (by first | (rw [pc5_o (by decide)]; first | exact pob_56 | exact pob_57 | exact pob_58 | exact pob_59 | (rw [pob_o (by decide)]; first | assumption | exact hco.1)) | exact (pc5_is (by omega)).1) (by rfl) ?_
  exact z_ireturn 57 rfl rfl (by first | rfl | exact zbo_nar) rfl rfl (by exact ⟨rfl, ψ9, rfl⟩)
set_option maxHeartbeats 4000000 in
set_option maxRecDepth 100000 in
theorem c_Wb_prove {G : zG} {n u : Nat} {μ : Nat → va_E} {κ : zκ} {kp : Int32} {ac : Value} (h : cst μ κ) (hob : isOb μ kp ac) {R : Nat} {rw : Nat → Int32} (hpl : isPl μ R rw) (x : Int32) :
    zMet G 12 M_Wb_prove [.ref 4, .int x] n u μ n u (cKp μ κ ((r_prove κ x R rw).1) (r_prove κ x R rw).2.1 (r_prove κ x R rw).2.2) := by
  obtain ⟨S, mo, pr, fa, sc, ch, rc, D⟩ := κ
  have hst := h
  obtain ⟨h1, ⟨cs, q, h2⟩, ⟨β, its, h3, h3a, h3b⟩, ⟨c23, h4⟩, h5⟩ := h
  have hk5 := h5
  obtain ⟨hi, hx, hmo, hrc⟩ := h5
  have hi0 := hi.1
  have hi1 := hi.2.1
  have hi2 := hi.2.2.1
  have hi3 := hi.2.2.2.2.1
  obtain ⟨f, ba, ac, cr, ψ, bh, h56, h57, h58, h59, h60, hbh, h5c, hf7, hR⟩ := hpl
  have hm16 : mo ≤ 16 := by omega
  have hmo0 : mo ≤ S 0 3 := hmo
  refine z_start (lv := [.ref 4, .int x]) K_Wb_prove rfl rfl (Nat.le_refl _) (Nat.le_refl _) (Nat.le_of_ble_eq_true rfl) rfl ?_
  have h13 := h2
  have h13a := h2.1
  have hco := h1
  unfold isOb at hob
  refine z_mu (pl_id h56 h57 h58 h59 h5c).symm ?_
  refine z_il1 (pc' := 1) 0 rfl rfl ?_
  refine z_callS1 (pc' := 4) 1 rfl rfl k_Wb_203 (c_Wb_isPlanLength x) (by decide) (Nat.le_refl _) (Nat.le_refl _) rfl rfl (Nat.le_of_ble_eq_true rfl) ?_
  first | refine z_if_neB (pc' := 7) 2 rfl rfl (tgt := 9) rfl (fun h4 => ?_) (fun h4 => ?_) | refine z_if_neN (pc' := 7) 2 rfl rfl (tgt := 9) rfl (by omega) (fun h4 => ?_) (fun h4 => ?_) | refine z_if_ne (pc' := 7) 2 rfl rfl (tgt := 9) rfl (fun h4 => ?_) (fun h4 => ?_)
  · obtain ⟨x1, hx1, hx2, rfl⟩ := z_wi h4 (by decide) (by decide)
    refine z_al0 (pc' := 10) 5 rfl rfl ?_
    refine z_getf (pc' := 13) 6 rfl rfl f_Wb_43_11 (by first | (rw [pc5_o (by decide)]; first | exact pob_56 | exact pob_57 | exact pob_58 | exact pob_59 | (rw [pob_o (by decide)]; first | assumption | exact hco.1)) | exact (pc5_is (by omega)).1) (by rfl) ?_
    refine z_al0 (pc' := 14) 7 rfl rfl ?_
    refine z_getf (pc' := 17) 8 rfl rfl f_Wb_10_11 (by first | (rw [pc5_o (by decide)]; first | exact pob_56 | exact pob_57 | exact pob_58 | exact pob_59 | (rw [pob_o (by decide)]; first | assumption | exact hco.1)) | exact (pc5_is (by omega)).1) (by rfl) ?_
    refine z_il1 (pc' := 18) 9 rfl rfl ?_
    refine z_iconst (v := nI 0) (by decide) (pc' := 19) 10 rfl rfl ?_
    refine z_callV (pc' := 22) 11 rfl rfl k_Wb_206 (by first | (rw [pc5_o (by decide)]; first | exact pob_56 | exact pob_57 | exact pob_58 | exact pob_59 | (rw [pob_o (by decide)]; first | assumption | exact hco.1)) | exact (pc5_is (by omega)).1) (c_Pl_search (N := x1) (K := min x1 (S 0 3 - mo)) h1 hi h3 h3a h60 hbh h13 (by omega) rfl hmo0 hx) (by decide) (Nat.le_refl _) (Nat.le_refl _) rfl rfl (Nat.le_of_ble_eq_true rfl) (fun r19 μ19 h19 => ?_)
    obtain ⟨y0, f9, ba9, ac9, ψ9, y1, y2, y3, y5, y6⟩ := h19
    subst y0; subst y1
    obtain ⟨s0, s10, s1, s2, s4, s5, s7, s8, s9⟩ := y2
    have hf9 := y6.trans hf7
    dsimp only [Option.toList_none, List.nil_append]
    refine z_al0 (pc' := 23) 12 rfl rfl ?_
    refine z_getf (pc' := 26) 13 rfl rfl f_Wb_43_11 (by first | (rw [pc5_o (by decide)]; first | exact pob_56 | exact pob_57 | exact pob_58 | exact pob_59 | (rw [pob_o (by decide)]; first | assumption | exact hco.1)) | exact (pc5_is (by omega)).1) (by rfl) ?_
    refine z_callV (pc' := 29) 14 rfl rfl k_Wb_259 (by first | (rw [pc5_o (by decide)]; first | exact pob_56 | exact pob_57 | exact pob_58 | exact pob_59 | (rw [pob_o (by decide)]; first | assumption | exact hco.1)) | exact (pc5_is (by omega)).1) (c_Pl_writeRows h1 hi h3 h3a h60 hbh (K := min x1 (S 0 3 - mo)) (by omega) (s7 sr_pos) s0 (t := (mo, pr, fa)) (by show mo + _ ≤ 16; omega) hx y3) (by decide) (Nat.le_refl _) (Nat.le_refl _) rfl rfl (Nat.le_of_ble_eq_true rfl) (fun r26 μ26 h26 => ?_)
    obtain ⟨z0, ψ8, z1⟩ := h26
    subst z0; subst z1
    dsimp only [Option.toList_some, List.cons_append, List.nil_append]
    exact z_ireturn 15 rfl rfl (by first | rfl | exact zbo_nar) rfl rfl (by rw [r_prove, if_pos h4, tN_n (by omega)]; exact ⟨rfl, isPl_of h60 hbh rfl (by show min x1 (S 0 3 - mo) ≤ 4; omega), fun i hi => by rw [pc5_o (by omega), pob_o (by omega)]⟩)
  · refine z_iconst (v := (-1)) (by decide) (pc' := 8) 3 rfl rfl ?_
    exact z_ireturn 4 rfl rfl (by first | rfl | exact zbo_nar) rfl rfl (by rw [r_prove, if_neg h4]; exact ⟨rfl, isPl_of h60 hbh hf7 hR, fun i hi => by rw [pc5_o (by omega), pob_o (by omega)]⟩)
set_option maxHeartbeats 4000000 in
set_option maxRecDepth 100000 in
theorem c_Pl_hasCell {G : zG} {n u : Nat} {ν : Nat → va_E} {f ba ac rw : Nat → Int32} {cr : Value} {ψ : Nat → zC5} {R : Nat} (hf7 : f 7 = nI R) (hR : R ≤ 4) (x y : Int32) : zMet G 1 M_Pl_hasCell [.ref 56, .int x, .int y] n u (pc5 (pob ν f cr ba rw ac) ψ) n u (zE (some (.int (zbo ((0 ≤ x ∧ x < nI R) ∧ (nI 0 ≤ y ∧ y ≤ nI 2))))) (pc5 (pob ν f cr ba rw ac) ψ)) := by
  have hs := sub1_lt (x := x) (k := R) (by omega)
  refine z_start (lv := [.ref 56, .int x, .int y]) K_Pl_hasCell rfl rfl (Nat.le_refl _) (Nat.le_refl _) (Nat.le_of_ble_eq_true rfl) rfl ?_
  refine z_il1 (pc' := 1) 0 rfl rfl ?_
  refine z_iconst (v := nI 0) (by decide) (pc' := 2) 1 rfl rfl ?_
  refine z_al0 (pc' := 3) 2 rfl rfl ?_
  refine z_getf (pc' := 6) 3 rfl rfl f_Pl_103_7 (by first | (rw [pc5_o (by decide)]; first | exact pob_56 | exact pob_57 | exact pob_58 | exact pob_59 | (rw [pob_o (by decide)]; first | assumption)) | exact (pc5_is (by omega)).1) (by rfl) ?_
  rw [hf7]
  refine z_iconst (v := nI 1) (by decide) (pc' := 7) 4 rfl rfl ?_
  refine z_isub (pc' := 8) 5 rfl rfl ?_
  refine z_callS1 (pc' := 11) 6 rfl rfl k_Pl_106 (c_Wb_within _ _ _) (by decide) (Nat.le_refl _) (Nat.le_refl _) rfl rfl (Nat.le_of_ble_eq_true rfl) ?_
  first | refine z_if_eqB (pc' := 14) 7 rfl rfl (tgt := 27) rfl (fun h11 => ?_) (fun h11 => ?_) | refine z_if_eqN (pc' := 14) 7 rfl rfl (tgt := 27) rfl (by omega) (fun h11 => ?_) (fun h11 => ?_) | refine z_if_eq (pc' := 14) 7 rfl rfl (tgt := 27) rfl (fun h11 => ?_) (fun h11 => ?_)
  · refine z_iconst (v := nI 0) (by decide) (pc' := 28) 15 rfl rfl ?_
    exact z_ireturn 16 rfl rfl (by first | rfl | exact zbo_nar) rfl rfl (by exact ⟨by rw [zbo_f (fun z => h11 (hs.mpr z.1))], rfl⟩)
  · refine z_il2 (pc' := 15) 8 rfl rfl ?_
    refine z_iconst (v := nI 0) (by decide) (pc' := 16) 9 rfl rfl ?_
    refine z_iconst (v := nI 2) (by decide) (pc' := 17) 10 rfl rfl ?_
    refine z_callS1 (pc' := 20) 11 rfl rfl k_Pl_106 (c_Wb_within _ _ _) (by decide) (Nat.le_refl _) (Nat.le_refl _) rfl rfl (Nat.le_of_ble_eq_true rfl) ?_
    first | refine z_if_eqB (pc' := 23) 12 rfl rfl (tgt := 27) rfl (fun h20 => ?_) (fun h20 => ?_) | refine z_if_eqN (pc' := 23) 12 rfl rfl (tgt := 27) rfl (by omega) (fun h20 => ?_) (fun h20 => ?_) | refine z_if_eq (pc' := 23) 12 rfl rfl (tgt := 27) rfl (fun h20 => ?_) (fun h20 => ?_)
    · refine z_iconst (v := nI 0) (by decide) (pc' := 28) 15 rfl rfl ?_
      exact z_ireturn 16 rfl rfl (by first | rfl | exact zbo_nar) rfl rfl (by exact ⟨by rw [zbo_f (fun z => h20 z.2)], rfl⟩)
    · refine z_iconst (v := nI 1) (by decide) (pc' := 24) 13 rfl rfl ?_
      refine z_goto 14 rfl (tgt := 28) rfl ?_
      exact z_ireturn 16 rfl rfl (by first | rfl | exact zbo_nar) rfl rfl (by exact ⟨by rw [zbo_t ⟨hs.mp h11, h20⟩], rfl⟩)
set_option maxHeartbeats 4000000 in
set_option maxRecDepth 100000 in
theorem c_Wb_row {G : zG} {n u : Nat} {μ : Nat → va_E} {κ : zκ} {kp : Int32} {ac : Value} (h : cst μ κ) (hob : isOb μ kp ac) {R : Nat} {rw : Nat → Int32} (hpl : isPl μ R rw) (x y : Int32) :
    zMet G 2 M_Wb_row [.ref 4, .int x, .int y] n u μ n u (cKp μ κ (r_row R rw x y) R rw) := by
  obtain ⟨S, mo, pr, fa, sc, ch, rc, D⟩ := κ
  have hst := h
  obtain ⟨h1, ⟨cs, q, h2⟩, ⟨β, its, h3, h3a, h3b⟩, ⟨c23, h4⟩, h5⟩ := h
  have hk5 := h5
  obtain ⟨hi, hx, hmo, hrc⟩ := h5
  have hi0 := hi.1
  have hi1 := hi.2.1
  have hi2 := hi.2.2.1
  have hi3 := hi.2.2.2.2.1
  obtain ⟨f, ba, ac, cr, ψ, bh, h56, h57, h58, h59, h60, hbh, h5c, hf7, hR⟩ := hpl
  have hm16 : mo ≤ 16 := by omega
  have hmo0 : mo ≤ S 0 3 := hmo
  refine z_start (lv := [.ref 4, .int x, .int y]) K_Wb_row rfl rfl (Nat.le_refl _) (Nat.le_refl _) (Nat.le_of_ble_eq_true rfl) rfl ?_
  have h13 := h2
  have h13a := h2.1
  have hco := h1
  unfold isOb at hob
  refine z_mu (pl_id h56 h57 h58 h59 h5c).symm ?_
  refine z_al0 (pc' := 1) 0 rfl rfl ?_
  refine z_getf (pc' := 4) 1 rfl rfl f_Wb_43_11 (by first | (rw [pc5_o (by decide)]; first | exact pob_56 | exact pob_57 | exact pob_58 | exact pob_59 | (rw [pob_o (by decide)]; first | assumption | exact hco.1)) | exact (pc5_is (by omega)).1) (by rfl) ?_
  refine z_il1 (pc' := 5) 2 rfl rfl ?_
  refine z_il2 (pc' := 6) 3 rfl rfl ?_
  refine z_callV1 (pc' := 9) 4 rfl rfl k_Wb_262 (by first | (rw [pc5_o (by decide)]; first | exact pob_56 | exact pob_57 | exact pob_58 | exact pob_59 | (rw [pob_o (by decide)]; first | assumption | exact hco.1)) | exact (pc5_is (by omega)).1) (c_Pl_hasCell hf7 hR _ _) (by decide) (Nat.le_refl _) (Nat.le_refl _) rfl rfl (Nat.le_of_ble_eq_true rfl) ?_
  first | refine z_if_eqB (pc' := 12) 5 rfl rfl (tgt := 28) rfl (fun h9 => ?_) (fun h9 => ?_) | refine z_if_eqN (pc' := 12) 5 rfl rfl (tgt := 28) rfl (by omega) (fun h9 => ?_) (fun h9 => ?_) | refine z_if_eq (pc' := 12) 5 rfl rfl (tgt := 28) rfl (fun h9 => ?_) (fun h9 => ?_)
  · refine z_bipush (v := (-9)) (by decide) (pc' := 30) 16 rfl rfl ?_
    exact z_ireturn 17 rfl rfl (by first | rfl | exact zbo_nar) rfl rfl (by refine ⟨by rw [r_row, if_neg h9], isPl_of h60 hbh hf7 hR, fun i hi => by rw [pc5_o (by omega), pob_o (by omega)]⟩)
  · obtain ⟨x1, hx1, rfl⟩ := z_in h9.1 (by omega)
    obtain ⟨y1, hy1, hy2, rfl⟩ := z_wi h9.2 (by decide) (by decide)
    refine z_al0 (pc' := 13) 6 rfl rfl ?_
    refine z_getf (pc' := 16) 7 rfl rfl f_Wb_43_11 (by first | (rw [pc5_o (by decide)]; first | exact pob_56 | exact pob_57 | exact pob_58 | exact pob_59 | (rw [pob_o (by decide)]; first | assumption | exact hco.1)) | exact (pc5_is (by omega)).1) (by rfl) ?_
    refine z_getr (pc' := 19) 8 rfl rfl f_Wb_265_7 (by first | (rw [pc5_o (by decide)]; first | exact pob_56 | exact pob_57 | exact pob_58 | exact pob_59 | (rw [pob_o (by decide)]; first | assumption | exact hco.1)) | exact (pc5_is (by omega)).1) (by rfl) ?_
    refine z_iconst (v := nI 3) (by decide) (pc' := 20) 9 rfl rfl ?_
    refine z_il1 (pc' := 21) 10 rfl rfl ?_
    first | refine z_imulN (pc' := 22) 11 rfl rfl ?_ | refine z_imul (pc' := 22) 11 rfl rfl ?_
    refine z_il2 (pc' := 23) 12 rfl rfl ?_
    first | refine z_iaddN (pc' := 24) 13 rfl rfl ?_ | refine z_iadd (pc' := 24) 13 rfl rfl ?_
    refine z_iald (pc' := 25) 14 rfl rfl (by first | (rw [pc5_o (by decide)]; first | exact pob_56 | exact pob_57 | exact pob_58 | exact pob_59 | (rw [pob_o (by decide)]; first | assumption | exact hco.1)) | exact (pc5_is (by omega)).1) (by omega) (by decide) ?_
    refine z_goto 15 rfl (tgt := 30) rfl ?_
    exact z_ireturn 17 rfl rfl (by first | rfl | exact zbo_nar) rfl rfl (by refine ⟨by rw [r_row, if_pos h9, tN_n (by omega), tN_n (by omega)], isPl_of h60 hbh hf7 hR, fun i hi => by rw [pc5_o (by omega), pob_o (by omega)]⟩)
set_option maxHeartbeats 4000000 in
set_option maxRecDepth 100000 in
theorem c_Wb_alterRow {G : zG} {n u : Nat} {μ : Nat → va_E} {κ : zκ} {kp : Int32} {ac : Value} (h : cst μ κ) (hob : isOb μ kp ac) {R : Nat} {rw : Nat → Int32} (hpl : isPl μ R rw) (x y v : Int32) :
    zMet G 2 M_Wb_alterRow [.ref 4, .int x, .int y, .int v] n u μ n u (cKp μ κ (r_row R rw x y) R (r_alter R rw x y v)) := by
  obtain ⟨S, mo, pr, fa, sc, ch, rc, D⟩ := κ
  have hst := h
  obtain ⟨h1, ⟨cs, q, h2⟩, ⟨β, its, h3, h3a, h3b⟩, ⟨c23, h4⟩, h5⟩ := h
  have hk5 := h5
  obtain ⟨hi, hx, hmo, hrc⟩ := h5
  have hi0 := hi.1
  have hi1 := hi.2.1
  have hi2 := hi.2.2.1
  have hi3 := hi.2.2.2.2.1
  obtain ⟨f, ba, ac, cr, ψ, bh, h56, h57, h58, h59, h60, hbh, h5c, hf7, hR⟩ := hpl
  have hm16 : mo ≤ 16 := by omega
  have hmo0 : mo ≤ S 0 3 := hmo
  refine z_start (lv := [.ref 4, .int x, .int y, .int v, .retAddr 0]) K_Wb_alterRow rfl rfl (Nat.le_refl _) (Nat.le_refl _) (Nat.le_of_ble_eq_true rfl) rfl ?_
  have h13 := h2
  have h13a := h2.1
  have hco := h1
  unfold isOb at hob
  refine z_mu (pl_id h56 h57 h58 h59 h5c).symm ?_
  refine z_al0 (pc' := 1) 0 rfl rfl ?_
  refine z_getf (pc' := 4) 1 rfl rfl f_Wb_43_11 (by first | (rw [pc5_o (by decide)]; first | exact pob_56 | exact pob_57 | exact pob_58 | exact pob_59 | (rw [pob_o (by decide)]; first | assumption | exact hco.1)) | exact (pc5_is (by omega)).1) (by rfl) ?_
  refine z_il1 (pc' := 5) 2 rfl rfl ?_
  refine z_il2 (pc' := 6) 3 rfl rfl ?_
  refine z_callV1 (pc' := 9) 4 rfl rfl k_Wb_262 (by first | (rw [pc5_o (by decide)]; first | exact pob_56 | exact pob_57 | exact pob_58 | exact pob_59 | (rw [pob_o (by decide)]; first | assumption | exact hco.1)) | exact (pc5_is (by omega)).1) (c_Pl_hasCell hf7 hR _ _) (by decide) (Nat.le_refl _) (Nat.le_refl _) rfl rfl (Nat.le_of_ble_eq_true rfl) ?_
  first | refine z_if_neB (pc' := 12) 5 rfl rfl (tgt := 15) rfl (fun h9 => ?_) (fun h9 => ?_) | refine z_if_neN (pc' := 12) 5 rfl rfl (tgt := 15) rfl (by omega) (fun h9 => ?_) (fun h9 => ?_) | refine z_if_ne (pc' := 12) 5 rfl rfl (tgt := 15) rfl (fun h9 => ?_) (fun h9 => ?_)
  · obtain ⟨x1, hx1, rfl⟩ := z_in h9.1 (by omega)
    obtain ⟨y1, hy1, hy2, rfl⟩ := z_wi h9.2 (by decide) (by decide)
    refine z_al0 (pc' := 16) 8 rfl rfl ?_
    refine z_getf (pc' := 19) 9 rfl rfl f_Wb_43_11 (by first | (rw [pc5_o (by decide)]; first | exact pob_56 | exact pob_57 | exact pob_58 | exact pob_59 | (rw [pob_o (by decide)]; first | assumption | exact hco.1)) | exact (pc5_is (by omega)).1) (by rfl) ?_
    refine z_getr (pc' := 22) 10 rfl rfl f_Wb_265_7 (by first | (rw [pc5_o (by decide)]; first | exact pob_56 | exact pob_57 | exact pob_58 | exact pob_59 | (rw [pob_o (by decide)]; first | assumption | exact hco.1)) | exact (pc5_is (by omega)).1) (by rfl) ?_
    refine z_iconst (v := nI 3) (by decide) (pc' := 23) 11 rfl rfl ?_
    refine z_il1 (pc' := 24) 12 rfl rfl ?_
    first | refine z_imulN (pc' := 25) 13 rfl rfl ?_ | refine z_imul (pc' := 25) 13 rfl rfl ?_
    refine z_il2 (pc' := 26) 14 rfl rfl ?_
    first | refine z_iaddN (pc' := 27) 15 rfl rfl ?_ | refine z_iadd (pc' := 27) 15 rfl rfl ?_
    refine z_iald (pc' := 28) 16 rfl rfl (by first | (rw [pc5_o (by decide)]; first | exact pob_56 | exact pob_57 | exact pob_58 | exact pob_59 | (rw [pob_o (by decide)]; first | assumption | exact hco.1)) | exact (pc5_is (by omega)).1) (by omega) (by decide) ?_
    refine z_is4 rfl rfl (pc' := 30) 17 rfl rfl ?_
    refine z_al0 (pc' := 31) 18 rfl rfl ?_
    refine z_getf (pc' := 34) 19 rfl rfl f_Wb_43_11 (by first | (rw [pc5_o (by decide)]; first | exact pob_56 | exact pob_57 | exact pob_58 | exact pob_59 | (rw [pob_o (by decide)]; first | assumption | exact hco.1)) | exact (pc5_is (by omega)).1) (by rfl) ?_
    refine z_getr (pc' := 37) 20 rfl rfl f_Wb_265_7 (by first | (rw [pc5_o (by decide)]; first | exact pob_56 | exact pob_57 | exact pob_58 | exact pob_59 | (rw [pob_o (by decide)]; first | assumption | exact hco.1)) | exact (pc5_is (by omega)).1) (by rfl) ?_
    refine z_iconst (v := nI 3) (by decide) (pc' := 38) 21 rfl rfl ?_
    refine z_il1 (pc' := 39) 22 rfl rfl ?_
    first | refine z_imulN (pc' := 40) 23 rfl rfl ?_ | refine z_imul (pc' := 40) 23 rfl rfl ?_
    refine z_il2 (pc' := 41) 24 rfl rfl ?_
    first | refine z_iaddN (pc' := 42) 25 rfl rfl ?_ | refine z_iadd (pc' := 42) 25 rfl rfl ?_
    refine z_il3 (pc' := 43) 26 rfl rfl ?_
    refine z_iast (pc' := 44) 27 rfl rfl (by first | (rw [pc5_o (by decide)]; first | exact pob_56 | exact pob_57 | exact pob_58 | exact pob_59 | (rw [pob_o (by decide)]; first | assumption | exact hco.1)) | exact (pc5_is (by omega)).1) (by omega) (by decide) ?_
    rw [pc5_z (by decide), pob_s58]
    refine z_il4 (pc' := 46) 28 rfl rfl ?_
    exact z_ireturn 29 rfl rfl (by first | rfl | exact zbo_nar) rfl rfl (by rw [r_alter, if_pos h9, tN_n (by omega), tN_n (by omega)]; refine ⟨by rw [r_row, if_pos h9, tN_n (by omega), tN_n (by omega)], isPl_of h60 hbh hf7 hR, fun i hi => by rw [pc5_o (by omega), pob_o (by omega)]⟩)
  · refine z_bipush (v := (-9)) (by decide) (pc' := 14) 6 rfl rfl ?_
    exact z_ireturn 7 rfl rfl (by first | rfl | exact zbo_nar) rfl rfl (by rw [r_alter, if_neg h9]; refine ⟨by rw [r_row, if_neg h9], isPl_of h60 hbh hf7 hR, fun i hi => by rw [pc5_o (by omega), pob_o (by omega)]⟩)
set_option maxHeartbeats 4000000 in
set_option maxRecDepth 100000 in
theorem l_Pl_firstWrongRow {G : zG} {n u : Nat} {ν : Nat → va_E} {S : Nat → Nat → Nat} {sc ch : Int32} {bh : Nat → Option Nat} {β : Nat → Nat → Nat} {its : Nat → zI} {D : zD6} {f ba ac : Nat → Int32} (hco : isCo ν S sc ch) (hi : iS S) (hbk : isBk ν 17 β) (hD : dzB β its D) (h60 : ν 60 = .inl (3, 5, .inr (.inr (.inr (.inr bh))))) (hbh : ∀ j, j < 5 → bh j = some (61 + 4 * j)) {rw : Nat → Int32} {R mo K : Nat} (hR : R ≤ 4) (hf7 : f 7 = nI R) (hf0 : f 0 = nI K) (hK : K = min R (S 0 3 - mo)) {Φ : zP} : ∀ j k t (ψ : Nat → zC5), k + j = R → t.1 = mo + k → t.1 ≤ 16 → iX S t.2.1 t.2.2 → atC (ψ 0) t → (∀ ψ : Nat → zC5, Φ (some (.int (jdA S D rw j k t))) (pc5 (pob ν f (.ref 5) ba rw ac) ψ)) →
    zW G 5 M_Pl_firstWrongRow 18 [.ref 56, .ref 5, .ref 61, .int (nI k), .retAddr 0] [] n u (pc5 (pob ν f (.ref 5) ba rw ac) ψ) n u Φ
  | 0, k, t, ψ, e, et, ht, hx, hc, Kk => by
    refine z_il3 (pc' := 19) 12 rfl rfl ?_
    refine z_al0 (pc' := 20) 13 rfl rfl ?_
    refine z_getf (pc' := 23) 14 rfl rfl f_Pl_103_7 (by first | (rw [pc5_o (by decide)]; first | exact pob_56 | exact pob_57 | exact pob_58 | exact pob_59 | (rw [pob_o (by decide)]; first | assumption | exact hco.1)) | exact (pc5_is (by omega)).1) (by rfl) ?_
    rw [hf7]
    first | refine z_icmp_geN (pc' := 26) 15 rfl rfl (tgt := 115) rfl (by omega) (by omega) (fun h23 => ?_) (fun h23 => ?_) | refine z_icmp_ge (pc' := 26) 15 rfl rfl (tgt := 115) rfl (fun h23 => ?_) (fun h23 => ?_)
    · refine z_iconst (v := nI 0) (by decide) (pc' := 116) 71 rfl rfl ?_
      exact z_ireturn 72 rfl rfl (by first | rfl | exact zbo_nar) rfl rfl (by exact Kk ψ)
    · exfalso; omega
  | j + 1, k, t, ψ, e, et, ht, hx, hc, Kk => by
    have hi0 := hi.1
    have hi3 := hi.2.2.2.2.1
    obtain ⟨q1, q2, q3⟩ := hc
    refine z_il3 (pc' := 19) 12 rfl rfl ?_
    refine z_al0 (pc' := 20) 13 rfl rfl ?_
    refine z_getf (pc' := 23) 14 rfl rfl f_Pl_103_7 (by first | (rw [pc5_o (by decide)]; first | exact pob_56 | exact pob_57 | exact pob_58 | exact pob_59 | (rw [pob_o (by decide)]; first | assumption | exact hco.1)) | exact (pc5_is (by omega)).1) (by rfl) ?_
    rw [hf7]
    first | refine z_icmp_geN (pc' := 26) 15 rfl rfl (tgt := 115) rfl (by omega) (by omega) (fun h23 => ?_) (fun h23 => ?_) | refine z_icmp_ge (pc' := 26) 15 rfl rfl (tgt := 115) rfl (fun h23 => ?_) (fun h23 => ?_)
    · exfalso; omega
    · refine z_il3 (pc' := 27) 16 rfl rfl ?_
      refine z_al0 (pc' := 28) 17 rfl rfl ?_
      refine z_getf (pc' := 31) 18 rfl rfl f_Pl_45_7 (by first | (rw [pc5_o (by decide)]; first | exact pob_56 | exact pob_57 | exact pob_58 | exact pob_59 | (rw [pob_o (by decide)]; first | assumption | exact hco.1)) | exact (pc5_is (by omega)).1) (by rfl) ?_
      rw [hf0]
      first | refine z_icmp_geN (pc' := 34) 19 rfl rfl (tgt := 97) rfl (by omega) (by omega) (fun h31 => ?_) (fun h31 => ?_) | refine z_icmp_ge (pc' := 34) 19 rfl rfl (tgt := 97) rfl (fun h31 => ?_) (fun h31 => ?_)
      · refine z_iconst (v := nI 0) (by decide) (pc' := 98) 61 rfl rfl ?_
        refine z_is4 rfl rfl (pc' := 100) 62 rfl rfl ?_
        refine z_il4 (pc' := 102) 63 rfl rfl ?_
        refine z_if_ne_f (pc' := 105) 64 rfl rfl (tgt := 109) rfl rfl ?_
        refine z_il3 (pc' := 106) 65 rfl rfl ?_
        refine z_iconst (v := nI 1) (by decide) (pc' := 107) 66 rfl rfl ?_
        first | refine z_iaddN (pc' := 108) 67 rfl rfl ?_ | refine z_iadd (pc' := 108) 67 rfl rfl ?_
        exact z_ireturn 68 rfl rfl (by first | rfl | exact zbo_nar) rfl rfl (by rw [jdA, if_neg (fun z => by have := z.1; omega)] at Kk; exact Kk _)
      · refine z_al1 (pc' := 35) 20 rfl rfl ?_
        refine z_al0 (pc' := 36) 21 rfl rfl ?_
        refine z_getf (pc' := 39) 22 rfl rfl f_Pl_15_7 (by first | (rw [pc5_o (by decide)]; first | exact pob_56 | exact pob_57 | exact pob_58 | exact pob_59 | (rw [pob_o (by decide)]; first | assumption | exact hco.1)) | exact (pc5_is (by omega)).1) (by rfl) ?_
        refine z_iconst (v := nI 3) (by decide) (pc' := 40) 23 rfl rfl ?_
        refine z_il3 (pc' := 41) 24 rfl rfl ?_
        first | refine z_imulN (pc' := 42) 25 rfl rfl ?_ | refine z_imul (pc' := 42) 25 rfl rfl ?_
        refine z_iald (pc' := 43) 26 rfl rfl (by first | (rw [pc5_o (by decide)]; first | exact pob_56 | exact pob_57 | exact pob_58 | exact pob_59 | (rw [pob_o (by decide)]; first | assumption | exact hco.1)) | exact (pc5_is (by omega)).1) (by omega) (by decide) ?_
        refine z_callV1 (pc' := 46) 27 rfl rfl k_Pl_110 (by first | (rw [pc5_o (by decide)]; first | exact pob_56 | exact pob_57 | exact pob_58 | exact pob_59 | (rw [pob_o (by decide)]; first | assumption | exact hco.1)) | exact (pc5_is (by omega)).1) (c_Co_isAct (isCo_fr hco (fun i hi => by rw [pc5_o (by omega), pob_o (by omega)])) hi _) (by decide) (Nat.le_refl _) (Nat.le_refl _) rfl rfl (Nat.le_of_ble_eq_true rfl) ?_
        first | refine z_if_eqB (pc' := 49) 28 rfl rfl (tgt := 97) rfl (fun h46 => ?_) (fun h46 => ?_) | refine z_if_eqN (pc' := 49) 28 rfl rfl (tgt := 97) rfl (by omega) (fun h46 => ?_) (fun h46 => ?_) | refine z_if_eq (pc' := 49) 28 rfl rfl (tgt := 97) rfl (fun h46 => ?_) (fun h46 => ?_)
        · refine z_iconst (v := nI 0) (by decide) (pc' := 98) 61 rfl rfl ?_
          refine z_is4 rfl rfl (pc' := 100) 62 rfl rfl ?_
          refine z_il4 (pc' := 102) 63 rfl rfl ?_
          refine z_if_ne_f (pc' := 105) 64 rfl rfl (tgt := 109) rfl rfl ?_
          refine z_il3 (pc' := 106) 65 rfl rfl ?_
          refine z_iconst (v := nI 1) (by decide) (pc' := 107) 66 rfl rfl ?_
          first | refine z_iaddN (pc' := 108) 67 rfl rfl ?_ | refine z_iadd (pc' := 108) 67 rfl rfl ?_
          exact z_ireturn 68 rfl rfl (by first | rfl | exact zbo_nar) rfl rfl (by rw [jdA, if_neg (fun z => h46 z.2.1)] at Kk; exact Kk _)
        · obtain ⟨a1, ha1, ea⟩ : ∃ a1, a1 ≤ S 0 0 ∧ rw (3 * k) = nI a1 := by
            obtain ⟨a1, _, h9, e9⟩ := z_wi (a := 0) h46 (by omega) (by decide)
            exact ⟨a1, h9, e9⟩
          have hx2 := iX_stp hi (D := D) (act := a1) hx
          refine z_al0 (pc' := 50) 29 rfl rfl ?_
          refine z_getf (pc' := 53) 30 rfl rfl f_Pl_15_7 (by first | (rw [pc5_o (by decide)]; first | exact pob_56 | exact pob_57 | exact pob_58 | exact pob_59 | (rw [pob_o (by decide)]; first | assumption | exact hco.1)) | exact (pc5_is (by omega)).1) (by rfl) ?_
          refine z_iconst (v := nI 3) (by decide) (pc' := 54) 31 rfl rfl ?_
          refine z_il3 (pc' := 55) 32 rfl rfl ?_
          first | refine z_imulN (pc' := 56) 33 rfl rfl ?_ | refine z_imul (pc' := 56) 33 rfl rfl ?_
          refine z_iconst (v := nI 1) (by decide) (pc' := 57) 34 rfl rfl ?_
          first | refine z_iaddN (pc' := 58) 35 rfl rfl ?_ | refine z_iadd (pc' := 58) 35 rfl rfl ?_
          refine z_iald (pc' := 59) 36 rfl rfl (by first | (rw [pc5_o (by decide)]; first | exact pob_56 | exact pob_57 | exact pob_58 | exact pob_59 | (rw [pob_o (by decide)]; first | assumption | exact hco.1)) | exact (pc5_is (by omega)).1) (by omega) (by decide) ?_
          refine z_al2 (pc' := 60) 37 rfl rfl ?_
          refine z_al1 (pc' := 61) 38 rfl rfl ?_
          refine z_al0 (pc' := 62) 39 rfl rfl ?_
          refine z_getf (pc' := 65) 40 rfl rfl f_Pl_15_7 (by first | (rw [pc5_o (by decide)]; first | exact pob_56 | exact pob_57 | exact pob_58 | exact pob_59 | (rw [pob_o (by decide)]; first | assumption | exact hco.1)) | exact (pc5_is (by omega)).1) (by rfl) ?_
          refine z_iconst (v := nI 3) (by decide) (pc' := 66) 41 rfl rfl ?_
          refine z_il3 (pc' := 67) 42 rfl rfl ?_
          first | refine z_imulN (pc' := 68) 43 rfl rfl ?_ | refine z_imul (pc' := 68) 43 rfl rfl ?_
          refine z_iald (pc' := 69) 44 rfl rfl (by first | (rw [pc5_o (by decide)]; first | exact pob_56 | exact pob_57 | exact pob_58 | exact pob_59 | (rw [pob_o (by decide)]; first | assumption | exact hco.1)) | exact (pc5_is (by omega)).1) (by omega) (by decide) ?_
          rw [ea]
          refine z_callVX1 (pc' := 72) 45 rfl rfl k_Pl_79 (by exact (pc5_is (i := 0) (by decide)).1) (c_passes5 (i := 0) (isCo_fr hco (fun i hi => pob_o (by omega))) hi (isBk_fr hbk (fun j a b => pob_o (by omega))) hD (by decide) (by omega) (by omega) (by rw [q2, q3]; exact hx)) (by decide) (Nat.le_refl _) (Nat.le_refl _) rfl rfl (Nat.le_of_ble_eq_true rfl) (fun q69 => ?_)
          rw [q1, q2, q3]
          first | refine z_icmp_ne (pc' := 75) 46 rfl rfl (tgt := 97) rfl (fun h72 => ?_) (fun h72 => ?_)
          · refine z_iconst (v := nI 0) (by decide) (pc' := 98) 61 rfl rfl ?_
            refine z_is4 rfl rfl (pc' := 100) 62 rfl rfl ?_
            refine z_il4 (pc' := 102) 63 rfl rfl ?_
            refine z_if_ne_f (pc' := 105) 64 rfl rfl (tgt := 109) rfl rfl ?_
            refine z_il3 (pc' := 106) 65 rfl rfl ?_
            refine z_iconst (v := nI 1) (by decide) (pc' := 107) 66 rfl rfl ?_
            first | refine z_iaddN (pc' := 108) 67 rfl rfl ?_ | refine z_iadd (pc' := 108) 67 rfl rfl ?_
            exact z_ireturn 68 rfl rfl (by first | rfl | exact zbo_nar) rfl rfl (by rw [jdA, if_neg (fun z => h72 (by have := z.2.2.1; rw [ea, tN_n (by omega)] at this; exact this))] at Kk; exact Kk _)
          · refine z_al0 (pc' := 76) 47 rfl rfl ?_
            refine z_getf (pc' := 79) 48 rfl rfl f_Pl_15_7 (by first | (rw [pc5_o (by decide)]; first | exact pob_56 | exact pob_57 | exact pob_58 | exact pob_59 | (rw [pob_o (by decide)]; first | assumption | exact hco.1)) | exact (pc5_is (by omega)).1) (by rfl) ?_
            refine z_iconst (v := nI 3) (by decide) (pc' := 80) 49 rfl rfl ?_
            refine z_il3 (pc' := 81) 50 rfl rfl ?_
            first | refine z_imulN (pc' := 82) 51 rfl rfl ?_ | refine z_imul (pc' := 82) 51 rfl rfl ?_
            refine z_iconst (v := nI 2) (by decide) (pc' := 83) 52 rfl rfl ?_
            first | refine z_iaddN (pc' := 84) 53 rfl rfl ?_ | refine z_iadd (pc' := 84) 53 rfl rfl ?_
            refine z_iald (pc' := 85) 54 rfl rfl (by first | (rw [pc5_o (by decide)]; first | exact pob_56 | exact pob_57 | exact pob_58 | exact pob_59 | (rw [pob_o (by decide)]; first | assumption | exact hco.1)) | exact (pc5_is (by omega)).1) (by omega) (by decide) ?_
            refine z_al2 (pc' := 86) 55 rfl rfl ?_
            refine z_al1 (pc' := 87) 56 rfl rfl ?_
            refine z_callV1 (pc' := 90) 57 rfl rfl k_Pl_92 (by exact (pc5_is (i := 0) (by decide)).1) (c_pset5 (i := 0) (isCo_fr hco (fun i hi => pob_o (by omega))) hi (by decide) (fun j => (hx2 j).1)) (by decide) (Nat.le_refl _) (Nat.le_refl _) rfl rfl (Nat.le_of_ble_eq_true rfl) ?_
            first | refine z_icmp_ne (pc' := 93) 58 rfl rfl (tgt := 97) rfl (fun h90 => ?_) (fun h90 => ?_)
            · refine z_iconst (v := nI 0) (by decide) (pc' := 98) 61 rfl rfl ?_
              refine z_is4 rfl rfl (pc' := 100) 62 rfl rfl ?_
              refine z_il4 (pc' := 102) 63 rfl rfl ?_
              refine z_if_ne_f (pc' := 105) 64 rfl rfl (tgt := 109) rfl rfl ?_
              refine z_il3 (pc' := 106) 65 rfl rfl ?_
              refine z_iconst (v := nI 1) (by decide) (pc' := 107) 66 rfl rfl ?_
              first | refine z_iaddN (pc' := 108) 67 rfl rfl ?_ | refine z_iadd (pc' := 108) 67 rfl rfl ?_
              exact z_ireturn 68 rfl rfl (by first | rfl | exact zbo_nar) rfl rfl (by rw [jdA, if_neg (fun z => h90 (by have := z.2.2.2; rw [ea, tN_n (by omega)] at this; exact this))] at Kk; exact Kk _)
            · refine z_iconst (v := nI 1) (by decide) (pc' := 94) 59 rfl rfl ?_
              refine z_goto 60 rfl (tgt := 98) rfl ?_
              refine z_is4 rfl rfl (pc' := 100) 62 rfl rfl ?_
              refine z_il4 (pc' := 102) 63 rfl rfl ?_
              refine z_if_ne_t 64 rfl (tgt := 109) rfl (by decide) ?_
              first | refine z_inc3N rfl rfl (pc' := 112) 69 rfl rfl ?_ | refine z_inc3 rfl rfl rfl (pc' := 112) 69 rfl rfl ?_
              refine z_goto 70 rfl (tgt := 18) rfl ?_
              refine z_less4 ?_
              have e9 : jdA S D rw (j + 1) k t = jdA S D rw j (k + 1) (stp S D a1 t) := by
                rw [jdA, ea, tN_n (by omega), if_pos ⟨by omega, ⟨by rw [← ea]; exact h46.1, by rw [← ea]; exact h46.2⟩, h72, h90⟩]
              rw [e9] at Kk
              exact l_Pl_firstWrongRow hco hi hbk hD h60 hbh hR hf7 hf0 hK j (k + 1) (stp S D a1 t) _ (by omega) (by show t.1 + 1 = _; omega) (by show t.1 + 1 ≤ 16; omega) hx2 ⟨rfl, rfl, rfl⟩ Kk
set_option maxHeartbeats 4000000 in
set_option maxRecDepth 100000 in
theorem c_Pl_firstWrongRow {G : zG} {n u : Nat} {ν : Nat → va_E} {S : Nat → Nat → Nat} {sc ch : Int32} {bh : Nat → Option Nat} {β : Nat → Nat → Nat} {its : Nat → zI} {D : zD6} {mo cs : Nat} {pr fa q13 : Nat → Nat} {f ba ac rw : Nat → Int32} {cr : Value} {ψ : Nat → zC5} (hco : isCo ν S sc ch) (hi : iS S) (hbk : isBk ν 17 β) (hD : dzB β its D) (h60 : ν 60 = .inl (3, 5, .inr (.inr (.inr (.inr bh))))) (hbh : ∀ j, j < 5 → bh j = some (61 + 4 * j)) (h13 : isCr ν 13 mo cs pr fa q13) {R : Nat} (hR : R ≤ 4) (hf7 : f 7 = nI R) (hm : mo ≤ S 0 3) (hx : iX S pr fa) : zMet G 5 M_Pl_firstWrongRow [.ref 56, .ref 5] n u (pc5 (pob ν f cr ba rw ac) ψ) n u (fun r μ' => r = some (.int (jdA S D rw R 0 (mo, pr, fa))) ∧ ∃ (f' : Nat → Int32) (ψ' : Nat → zC5), μ' = pc5 (pob ν f' (.ref 5) ba rw ac) ψ' ∧ f' 7 = f 7) := by
  have hi3 := hi.2.2.2.2.1
  refine z_start (lv := [.ref 56, .ref 5, .retAddr 0, .retAddr 0, .retAddr 0]) K_Pl_firstWrongRow rfl rfl (Nat.le_refl _) (Nat.le_refl _) (Nat.le_of_ble_eq_true rfl) rfl ?_
  refine z_al0 (pc' := 1) 0 rfl rfl ?_
  refine z_al1 (pc' := 2) 1 rfl rfl ?_
  refine z_al0 (pc' := 3) 2 rfl rfl ?_
  refine z_getf (pc' := 6) 3 rfl rfl f_Pl_103_7 (by first | (rw [pc5_o (by decide)]; first | exact pob_56 | exact pob_57 | exact pob_58 | exact pob_59 | (rw [pob_o (by decide)]; first | assumption | exact hco.1)) | exact (pc5_is (by omega)).1) (by rfl) ?_
  rw [hf7]
  refine z_callV0 (pc' := 9) 4 rfl rfl k_Pl_52 (by first | (rw [pc5_o (by decide)]; first | exact pob_56 | exact pob_57 | exact pob_58 | exact pob_59 | (rw [pob_o (by decide)]; first | assumption | exact hco.1)) | exact (pc5_is (by omega)).1) (c_Pl_begin hco hi hbk hD h60 hbh h13 (by omega) hm) (by decide) (Nat.le_refl _) (Nat.le_refl _) rfl rfl (Nat.le_of_ble_eq_true rfl) ?_
  refine z_al0 (pc' := 10) 5 rfl rfl ?_
  refine z_getf (pc' := 13) 6 rfl rfl f_Pl_23_7 (by first | (rw [pc5_o (by decide)]; first | exact pob_56 | exact pob_57 | exact pob_58 | exact pob_59 | (rw [pob_o (by decide)]; first | assumption | exact hco.1)) | exact (pc5_is (by omega)).1) (by rfl) ?_
  refine z_iconst (v := nI 0) (by decide) (pc' := 14) 7 rfl rfl ?_
  refine z_aald (pc' := 15) 8 rfl rfl (by first | (rw [pc5_o (by decide)]; first | exact pob_56 | exact pob_57 | exact pob_58 | exact pob_59 | (rw [pob_o (by decide)]; first | assumption | exact hco.1)) | exact (pc5_is (by omega)).1) (by omega) (by decide) (by exact hbh 0 (by decide)) ?_
  refine z_as2 rfl rfl (pc' := 16) 9 rfl rfl ?_
  refine z_iconst (v := nI 0) (by decide) (pc' := 17) 10 rfl rfl ?_
  refine z_is3 rfl rfl (pc' := 18) 11 rfl rfl ?_
  exact l_Pl_firstWrongRow (f := un f 0 (nI (min R (S 0 3 - mo)))) (K := min R (S 0 3 - mo)) hco hi hbk hD h60 hbh (mo := mo) hR hf7 rfl rfl R 0 (mo, pr, fa) _ (Nat.zero_add _) rfl (by show mo ≤ 16; omega) hx ⟨rfl, rfl, rfl⟩ (fun ψ9 => ⟨rfl, _, ψ9, rfl, hf7⟩)
set_option maxHeartbeats 4000000 in
set_option maxRecDepth 100000 in
theorem c_Wb_judge {G : zG} {n u : Nat} {μ : Nat → va_E} {κ : zκ} {kp : Int32} {ac : Value} (h : cst μ κ) (hob : isOb μ kp ac) {R : Nat} {rw : Nat → Int32} (hpl : isPl μ R rw) :
    zMet G 6 M_Wb_judge [.ref 4] n u μ n u (cKp μ κ (f_judge κ R rw) R rw) := by
  obtain ⟨S, mo, pr, fa, sc, ch, rc, D⟩ := κ
  have hst := h
  obtain ⟨h1, ⟨cs, q, h2⟩, ⟨β, its, h3, h3a, h3b⟩, ⟨c23, h4⟩, h5⟩ := h
  have hk5 := h5
  obtain ⟨hi, hx, hmo, hrc⟩ := h5
  have hi0 := hi.1
  have hi1 := hi.2.1
  have hi2 := hi.2.2.1
  have hi3 := hi.2.2.2.2.1
  obtain ⟨f, ba, ac, cr, ψ, bh, h56, h57, h58, h59, h60, hbh, h5c, hf7, hR⟩ := hpl
  have hm16 : mo ≤ 16 := by omega
  have hmo0 : mo ≤ S 0 3 := hmo
  refine z_start (lv := [.ref 4]) K_Wb_judge rfl rfl (Nat.le_refl _) (Nat.le_refl _) (Nat.le_of_ble_eq_true rfl) rfl ?_
  have h13 := h2
  have h13a := h2.1
  have hco := h1
  unfold isOb at hob
  refine z_mu (pl_id h56 h57 h58 h59 h5c).symm ?_
  refine z_al0 (pc' := 1) 0 rfl rfl ?_
  refine z_getf (pc' := 4) 1 rfl rfl f_Wb_43_11 (by first | (rw [pc5_o (by decide)]; first | exact pob_56 | exact pob_57 | exact pob_58 | exact pob_59 | (rw [pob_o (by decide)]; first | assumption | exact hco.1)) | exact (pc5_is (by omega)).1) (by rfl) ?_
  refine z_al0 (pc' := 5) 2 rfl rfl ?_
  refine z_getf (pc' := 8) 3 rfl rfl f_Wb_10_11 (by first | (rw [pc5_o (by decide)]; first | exact pob_56 | exact pob_57 | exact pob_58 | exact pob_59 | (rw [pob_o (by decide)]; first | assumption | exact hco.1)) | exact (pc5_is (by omega)).1) (by rfl) ?_
  refine z_callV (pc' := 11) 4 rfl rfl k_Wb_268 (by first | (rw [pc5_o (by decide)]; first | exact pob_56 | exact pob_57 | exact pob_58 | exact pob_59 | (rw [pob_o (by decide)]; first | assumption | exact hco.1)) | exact (pc5_is (by omega)).1) (c_Pl_firstWrongRow h1 hi h3 h3a h60 hbh h13 hR hf7 hmo0 hx) (by decide) (Nat.le_refl _) (Nat.le_refl _) rfl rfl (Nat.le_of_ble_eq_true rfl) (fun r8 μ8 h8 => ?_)
  obtain ⟨z0, f8, ψ8, z1, z2⟩ := h8
  subst z0; subst z1
  dsimp only [Option.toList_some, List.cons_append, List.nil_append]
  exact z_ireturn 5 rfl rfl (by first | rfl | exact zbo_nar) rfl rfl (by refine ⟨rfl, isPl_of h60 hbh (z2.trans hf7) hR, fun i hi => by rw [pc5_o (by omega), pob_o (by omega)]⟩)
