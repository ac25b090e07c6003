/-- the plans' cells: how many rows, and the rows -/
def isPl (μ : Nat → va_E) (R : Nat) (rw : Nat → Int32) : Prop := ∃ (f ba ac : Nat → Int32) (cr : Value) (ψ : Nat → zC5) (bh : Nat → Option Nat), μ 56 = obP f cr ∧ μ 57 = .inl (0, 4, .inl ba) ∧ μ 58 = .inl (0, 12, .inl rw) ∧ μ 59 = .inl (0, 4, .inl ac) ∧ μ 60 = .inl (3, 5, .inr (.inr (.inr (.inr bh)))) ∧ (∀ j, j < 5 → bh j = some (61 + 4 * j)) ∧ (∀ i, i < 5 → isCX μ (61 + 4 * i) (ψ i)) ∧ f 7 = nI R ∧ R ≤ 4
theorem pl_id {μ : Nat → va_E} {f ba ac rw : Nat → Int32} {cr : Value} {ψ : Nat → zC5} (h1 : μ 56 = obP f cr) (h2 : μ 57 = .inl (0, 4, .inl ba)) (h3 : μ 58 = .inl (0, 12, .inl rw)) (h4 : μ 59 = .inl (0, 4, .inl ac)) (h5 : ∀ i, i < 5 → isCX μ (61 + 4 * i) (ψ i)) : pc5 (pob μ f cr ba rw ac) ψ = μ := by
  have e : pob μ f cr ba rw ac = μ := by
    unfold pob
    rw [zu_id h1, zu_id h2, zu_id h3, zu_id h4]
  rw [e, pc5_id h5]
theorem isPl_of {ν : Nat → va_E} {f ba ac rw : Nat → Int32} {cr : Value} {ψ : Nat → zC5} {bh : Nat → Option Nat} {R : Nat} (h60 : ν 60 = .inl (3, 5, .inr (.inr (.inr (.inr bh))))) (hbh : ∀ j, j < 5 → bh j = some (61 + 4 * j)) (h7 : f 7 = nI R) (hR : R ≤ 4) : isPl (pc5 (pob ν f cr ba rw ac) ψ) R rw :=
  ⟨f, ba, ac, cr, ψ, bh, by rw [pc5_o (by decide)]; exact pob_56, by rw [pc5_o (by decide)]; exact pob_57, by rw [pc5_o (by decide)]; exact pob_58, by rw [pc5_o (by decide)]; exact pob_59, by rw [pc5_o (by decide), pob_o (by decide)]; exact h60, hbh, fun i hi => pc5_is hi, h7, hR⟩
/-- a call that uses the plans' cells and leaves the coast as it is -/
def cKp (μ : Nat → va_E) (κ : zκ) (a : Int32) (R : Nat) (rw : Nat → Int32) : zP := fun r μ' => r = some (.int a) ∧ isPl μ' R rw ∧ ∀ i, (i < 56 ∨ 80 < i) → μ' i = μ i
def srF (S : Nat → Nat → Nat) (D : zD6) (set : Int32) (K : Nat) (t : zT3) : zSr := fdN (lfS S D set K 0 0 t) ((S 0 0 + 1) ^ K) 0 ((0, 0, 0), 5, 0)
theorem sr_c0 {S : Nat → Nat → Nat} {D : zD6} {set : Int32} {K : Nat} {t : zT3} {c0 : Int32} : fdN (lfS S D set K 0 0 t) ((S 0 0 + 1) ^ K) 0 ((0, c0, 0), 5, 0) = srF S D set K t := by
  unfold srF
  obtain ⟨c, e⟩ : ∃ c, (S 0 0 + 1) ^ K = c + 1 := ⟨(S 0 0 + 1) ^ K - 1, by have : 0 < (S 0 0 + 1) ^ K := Nat.pow_pos (by omega); omega⟩
  rw [e]
  rfl
theorem fdN_inv {α : Type} {f : Nat → α → α} {P : α → Prop} (h : ∀ p s, P s → P (f p s)) : ∀ c b s, P s → P (fdN f c b s)
  | 0, b, s, q => q
  | c + 1, b, s, q => fdN_inv h c (b + 1) _ (h b s q)
theorem bsS_pos {w p : Nat} {x : Nat × Int32 × Nat} : (bsS w p x).1 ≠ 0 := by
  unfold bsS
  split
  · show w + 1 ≠ 0; omega
  · split
    · show x.1 ≠ 0; omega
    · omega
theorem sr_pos {S : Nat → Nat → Nat} {D : zD6} {set : Int32} {K : Nat} {t : zT3} : (srF S D set K t).1.1 ≠ 0 := by
  unfold srF
  obtain ⟨c, e⟩ : ∃ c, (S 0 0 + 1) ^ K = c + 1 := ⟨(S 0 0 + 1) ^ K - 1, by have : 0 < (S 0 0 + 1) ^ K := Nat.pow_pos (by omega); omega⟩
  rw [e]
  exact fdN_inv (P := fun s : zSr => s.1.1 ≠ 0) (fun _ _ _ => bsS_pos) c 1 _ bsS_pos
set_option maxHeartbeats 4000000 in
set_option maxRecDepth 100000 in
theorem c_Pl_begin {G : zG} {n u : Nat} {ν : Nat → va_E} {S : Nat → Nat → Nat} {sc ch : Int32} {bh : Nat → Option Nat} {β : Nat → Nat → Nat} {its : Nat → zI} {D : zD6} {mo cs : Nat} {pr fa q13 : Nat → Nat} {f ba ac rw : Nat → Int32} {cr : Value} {ψ : Nat → zC5} (hco : isCo ν S sc ch) (hi : iS S) (hbk : isBk ν 17 β) (hD : dzB β its D) (h60 : ν 60 = .inl (3, 5, .inr (.inr (.inr (.inr bh))))) (hbh : ∀ j, j < 5 → bh j = some (61 + 4 * j)) (h13 : isCr ν 13 mo cs pr fa q13) {N : Nat} (hN : N ≤ 16) (hm : mo ≤ S 0 3) : zMet G 2 M_Pl_begin [.ref 56, .ref 5, .int (nI N)] n u (pc5 (pob ν f cr ba rw ac) ψ) n u (zE none (pc5 (pob ν (un f 0 (nI (min N (S 0 3 - mo)))) (.ref 5) ba rw ac) (un ψ 0 (mo, cs, pr, fa, (ψ 0).2.2.2.2)))) := by
  have hi3 := hi.2.2.2.2.1
  have h13' := h13.1
  refine z_start (lv := [.ref 56, .ref 5, .int (nI N), .retAddr 0]) K_Pl_begin rfl rfl (Nat.le_refl _) (Nat.le_refl _) (Nat.le_of_ble_eq_true rfl) rfl ?_
  refine z_al0 (pc' := 1) 0 rfl rfl ?_
  refine z_al1 (pc' := 2) 1 rfl rfl ?_
  refine z_putf (pc' := 5) 2 rfl rfl f_Pl_28_7 (by first | (rw [pc5_o (by decide)]; first | exact pob_56 | exact pob_57 | exact pob_58 | exact pob_59 | (rw [pob_o (by decide)]; first | assumption | exact hco.1)) | exact (pc5_is (by omega)).1) rfl rfl (by rfl) (by rfl) ?_
  dsimp only [List.set]
  rw [obP_9, pc5_z (by decide), pob_s56]
  refine z_al1 (pc' := 6) 3 rfl rfl ?_
  refine z_getf (pc' := 9) 4 rfl rfl f_Pl_32_3 (by first | (rw [pc5_o (by decide)]; first | exact pob_56 | exact pob_57 | exact pob_58 | exact pob_59 | (rw [pob_o (by decide)]; first | assumption | exact hco.1)) | exact (pc5_is (by omega)).1) (by rfl) ?_
  refine z_al1 (pc' := 10) 5 rfl rfl ?_
  refine z_getr (pc' := 13) 6 rfl rfl f_Pl_38_3 (by first | (rw [pc5_o (by decide)]; first | exact pob_56 | exact pob_57 | exact pob_58 | exact pob_59 | (rw [pob_o (by decide)]; first | assumption | exact hco.1)) | exact (pc5_is (by omega)).1) (by rfl) ?_
  refine z_getf (pc' := 16) 7 rfl rfl f_Pl_42_4 (by first | (rw [pc5_o (by decide)]; first | exact pob_56 | exact pob_57 | exact pob_58 | exact pob_59 | (rw [pob_o (by decide)]; first | assumption | exact hco.1)) | exact (pc5_is (by omega)).1) (by rfl) ?_
  first | refine z_isubN (by omega) (pc' := 17) 8 rfl rfl ?_ | refine z_isub (pc' := 17) 8 rfl rfl ?_
  refine z_is3 rfl rfl (pc' := 18) 9 rfl rfl ?_
  refine z_al0 (pc' := 19) 10 rfl rfl ?_
  refine z_il3 (pc' := 20) 11 rfl rfl ?_
  refine z_il2 (pc' := 21) 12 rfl rfl ?_
  first | refine z_icmp_geN (pc' := 24) 13 rfl rfl (tgt := 28) rfl (by omega) (by omega) (fun h21 => ?_) (fun h21 => ?_) | refine z_icmp_ge (pc' := 24) 13 rfl rfl (tgt := 28) rfl (fun h21 => ?_) (fun h21 => ?_)
  · refine z_il2 (pc' := 29) 16 rfl rfl ?_
    refine z_te (congrArg nI (show N = min N (S 0 3 - mo) by omega)) ?_
    refine z_putf (pc' := 32) 17 rfl rfl f_Pl_45_7 (by first | (rw [pc5_o (by decide)]; first | exact pob_56 | exact pob_57 | exact pob_58 | exact pob_59 | (rw [pob_o (by decide)]; first | assumption | exact hco.1)) | exact (pc5_is (by omega)).1) rfl rfl (by rfl) (by rfl) ?_
    dsimp only [List.set]
    rw [obP_0, pc5_z (by decide), pob_s56]
    refine z_al0 (pc' := 33) 18 rfl rfl ?_
    refine z_getf (pc' := 36) 19 rfl rfl f_Pl_23_7 (by first | (rw [pc5_o (by decide)]; first | exact pob_56 | exact pob_57 | exact pob_58 | exact pob_59 | (rw [pob_o (by decide)]; first | assumption | exact hco.1)) | exact (pc5_is (by omega)).1) (by rfl) ?_
    refine z_iconst (v := nI 0) (by decide) (pc' := 37) 20 rfl rfl ?_
    refine z_aald (pc' := 38) 21 rfl rfl (by first | (rw [pc5_o (by decide)]; first | exact pob_56 | exact pob_57 | exact pob_58 | exact pob_59 | (rw [pob_o (by decide)]; first | assumption | exact hco.1)) | exact (pc5_is (by omega)).1) (by omega) (by decide) (by exact hbh 0 (by decide)) ?_
    refine z_al1 (pc' := 39) 22 rfl rfl ?_
    refine z_getr (pc' := 42) 23 rfl rfl f_Pl_38_3 (by first | (rw [pc5_o (by decide)]; first | exact pob_56 | exact pob_57 | exact pob_58 | exact pob_59 | (rw [pob_o (by decide)]; first | assumption | exact hco.1)) | exact (pc5_is (by omega)).1) (by rfl) ?_
    refine z_callV0 (pc' := 45) 24 rfl rfl k_Pl_48 (by exact (pc5_is (i := 0) (by decide)).1) (c_copy05 (isCr_fr h13 (fun i a b => pob_o (by omega)))) (by decide) (Nat.le_refl _) (Nat.le_refl _) rfl rfl (Nat.le_of_ble_eq_true rfl) ?_
    exact z_return 25 rfl rfl rfl rfl (by exact ⟨rfl, rfl⟩)
  · refine z_il3 (pc' := 25) 14 rfl rfl ?_
    refine z_goto 15 rfl (tgt := 29) rfl ?_
    refine z_te (congrArg nI (show S 0 3 - mo = min N (S 0 3 - mo) by omega)) ?_
    refine z_putf (pc' := 32) 17 rfl rfl f_Pl_45_7 (by first | (rw [pc5_o (by decide)]; first | exact pob_56 | exact pob_57 | exact pob_58 | exact pob_59 | (rw [pob_o (by decide)]; first | assumption | exact hco.1)) | exact (pc5_is (by omega)).1) rfl rfl (by rfl) (by rfl) ?_
    dsimp only [List.set]
    rw [obP_0, pc5_z (by decide), pob_s56]
    refine z_al0 (pc' := 33) 18 rfl rfl ?_
    refine z_getf (pc' := 36) 19 rfl rfl f_Pl_23_7 (by first | (rw [pc5_o (by decide)]; first | exact pob_56 | exact pob_57 | exact pob_58 | exact pob_59 | (rw [pob_o (by decide)]; first | assumption | exact hco.1)) | exact (pc5_is (by omega)).1) (by rfl) ?_
    refine z_iconst (v := nI 0) (by decide) (pc' := 37) 20 rfl rfl ?_
    refine z_aald (pc' := 38) 21 rfl rfl (by first | (rw [pc5_o (by decide)]; first | exact pob_56 | exact pob_57 | exact pob_58 | exact pob_59 | (rw [pob_o (by decide)]; first | assumption | exact hco.1)) | exact (pc5_is (by omega)).1) (by omega) (by decide) (by exact hbh 0 (by decide)) ?_
    refine z_al1 (pc' := 39) 22 rfl rfl ?_
    refine z_getr (pc' := 42) 23 rfl rfl f_Pl_38_3 (by first | (rw [pc5_o (by decide)]; first | exact pob_56 | exact pob_57 | exact pob_58 | exact pob_59 | (rw [pob_o (by decide)]; first | assumption | exact hco.1)) | exact (pc5_is (by omega)).1) (by rfl) ?_
    refine z_callV0 (pc' := 45) 24 rfl rfl k_Pl_48 (by exact (pc5_is (i := 0) (by decide)).1) (c_copy05 (isCr_fr h13 (fun i a b => pob_o (by omega)))) (by decide) (Nat.le_refl _) (Nat.le_refl _) rfl rfl (Nat.le_of_ble_eq_true rfl) ?_
    exact z_return 25 rfl rfl rfl rfl (by exact ⟨rfl, rfl⟩)
set_option maxHeartbeats 4000000 in
set_option maxRecDepth 100000 in
theorem c_Pl_search {G : zG} {n u : Nat} {ν : Nat → va_E} {S : Nat → Nat → Nat} {sc ch : Int32} {bh : Nat → Option Nat} {β : Nat → Nat → Nat} {its : Nat → zI} {D : zD6} {mo cs : Nat} {pr fa q13 : Nat → Nat} {f ba ac rw : Nat → Int32} {cr : Value} {ψ : Nat → zC5} (hco : isCo ν S sc ch) (hi : iS S) (hbk : isBk ν 17 β) (hD : dzB β its D) (h60 : ν 60 = .inl (3, 5, .inr (.inr (.inr (.inr bh))))) (hbh : ∀ j, j < 5 → bh j = some (61 + 4 * j)) (h13 : isCr ν 13 mo cs pr fa q13) {N K : Nat} {set : Int32} (hN : N ≤ 4) (hK : K = min N (S 0 3 - mo)) (hm : mo ≤ S 0 3) (hx : iX S pr fa) : zMet G 11 M_Pl_search [.ref 56, .ref 5, .int (nI N), .int set] n u (pc5 (pob ν f cr ba rw ac) ψ) n u (fun r μ' => r = none ∧ ∃ (f' ba' ac' : Nat → Int32) (ψ' : Nat → zC5), μ' = pc5 (pob ν f' (.ref 5) ba' rw ac') ψ' ∧ SR S K set f' ba' (srF S D set K (mo, pr, fa)) ∧ atC (ψ' 0) (mo, pr, fa) ∧ f' 6 = f 6 ∧ f' 7 = f 7) := by
  have hi3 := hi.2.2.2.2.1
  refine z_start (lv := [.ref 56, .ref 5, .int (nI N), .int set]) K_Pl_search rfl rfl (Nat.le_refl _) (Nat.le_refl _) (Nat.le_of_ble_eq_true rfl) rfl ?_
  refine z_al0 (pc' := 1) 0 rfl rfl ?_
  refine z_al1 (pc' := 2) 1 rfl rfl ?_
  refine z_il2 (pc' := 3) 2 rfl rfl ?_
  refine z_callV0 (pc' := 6) 3 rfl rfl k_Pl_52 (by first | (rw [pc5_o (by decide)]; first | exact pob_56 | exact pob_57 | exact pob_58 | exact pob_59 | (rw [pob_o (by decide)]; first | assumption | exact hco.1)) | exact (pc5_is (by omega)).1) (c_Pl_begin hco hi hbk hD h60 hbh h13 (by omega) hm) (by omega) (Nat.le_refl _) (Nat.le_refl _) rfl rfl (Nat.le_of_ble_eq_true rfl) ?_
  refine z_al0 (pc' := 7) 4 rfl rfl ?_
  refine z_il3 (pc' := 8) 5 rfl rfl ?_
  refine z_putf (pc' := 11) 6 rfl rfl f_Pl_56_7 (by first | (rw [pc5_o (by decide)]; first | exact pob_56 | exact pob_57 | exact pob_58 | exact pob_59 | (rw [pob_o (by decide)]; first | assumption | exact hco.1)) | exact (pc5_is (by omega)).1) rfl rfl (by rfl) (by rfl) ?_
  dsimp only [List.set]
  rw [obP_10, pc5_z (by decide), pob_s56]
  refine z_al0 (pc' := 12) 7 rfl rfl ?_
  refine z_iconst (v := (-1)) (by decide) (pc' := 13) 8 rfl rfl ?_
  refine z_putf (pc' := 16) 9 rfl rfl f_Pl_59_7 (by first | (rw [pc5_o (by decide)]; first | exact pob_56 | exact pob_57 | exact pob_58 | exact pob_59 | (rw [pob_o (by decide)]; first | assumption | exact hco.1)) | exact (pc5_is (by omega)).1) rfl rfl (by rfl) (by rfl) ?_
  dsimp only [List.set]
  rw [obP_1, pc5_z (by decide), pob_s56]
  refine z_al0 (pc' := 17) 10 rfl rfl ?_
  refine z_iconst (v := nI 5) (by decide) (pc' := 18) 11 rfl rfl ?_
  refine z_putf (pc' := 21) 12 rfl rfl f_Pl_62_7 (by first | (rw [pc5_o (by decide)]; first | exact pob_56 | exact pob_57 | exact pob_58 | exact pob_59 | (rw [pob_o (by decide)]; first | assumption | exact hco.1)) | exact (pc5_is (by omega)).1) rfl rfl (by rfl) (by rfl) ?_
  dsimp only [List.set]
  rw [obP_4, pc5_z (by decide), pob_s56]
  refine z_al0 (pc' := 22) 13 rfl rfl ?_
  refine z_iconst (v := nI 0) (by decide) (pc' := 23) 14 rfl rfl ?_
  refine z_putf (pc' := 26) 15 rfl rfl f_Pl_65_7 (by first | (rw [pc5_o (by decide)]; first | exact pob_56 | exact pob_57 | exact pob_58 | exact pob_59 | (rw [pob_o (by decide)]; first | assumption | exact hco.1)) | exact (pc5_is (by omega)).1) rfl rfl (by rfl) (by rfl) ?_
  dsimp only [List.set]
  rw [obP_5, pc5_z (by decide), pob_s56, ← hK]
  refine z_al0 (pc' := 27) 16 rfl rfl ?_
  refine z_iconst (v := nI 0) (by decide) (pc' := 28) 17 rfl rfl ?_
  refine z_iconst (v := nI 0) (by decide) (pc' := 29) 18 rfl rfl ?_
  refine z_iconst (v := nI 0) (by decide) (pc' := 30) 19 rfl rfl ?_
  refine z_callV (pc' := 33) 20 rfl rfl k_Pl_68 (by first | (rw [pc5_o (by decide)]; first | exact pob_56 | exact pob_57 | exact pob_58 | exact pob_59 | (rw [pob_o (by decide)]; first | assumption | exact hco.1)) | exact (pc5_is (by omega)).1) (c_Pl_tryActs (K := K) (set := set) hco hi hbk hD h60 hbh (by omega) K 0 0 0 0 (mo, pr, fa) _ ba ac _ ((0, f 2, 0), 5, 0) (by omega) (by omega) (by omega) (by show mo + K ≤ 16; omega) hx ⟨rfl, rfl, rfl⟩ (fun i hi => absurd hi (Nat.not_lt_zero i)) ⟨rfl, rfl, rfl, rfl, rfl, rfl, fun z => absurd rfl z, Nat.zero_le _, Nat.le_refl _⟩) (by omega) (Nat.le_refl _) (Nat.le_refl _) rfl rfl (Nat.le_of_ble_eq_true rfl) (fun r30 μ30 h30 => ?_)
  obtain ⟨y0, f9, ba9, ac9, ψ9, y1, y2, y3, y4, y5, y6⟩ := h30
  subst y0; subst y1
  rw [Nat.zero_mul, sr_c0] at y2
  dsimp only [Option.toList_none, List.nil_append]
  exact z_return 21 rfl rfl rfl rfl (by exact ⟨rfl, f9, ba9, ac9, ψ9, rfl, y2, by rw [y3 0 (Nat.le_refl _)]; exact ⟨rfl, rfl, rfl⟩, y5, y6⟩)
