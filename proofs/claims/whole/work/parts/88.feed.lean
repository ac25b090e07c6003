/-! ===== feed ===== -/
theorem by_bits : ∀ j, j < 32 → (255#32).getLsbD j = (255#64).getLsbD j ∧ (8 ≤ j → (255#32).getLsbD j = false) := by decide
theorem by_bv (x : BitVec 64) (s : Nat) (hs : s ≤ 56) : (x >>> s).setWidth 32 &&& 255#32 = (x.sshiftRight s &&& 255#64).setWidth 32 := by
  apply BitVec.eq_of_getLsbD_eq
  intro j hj
  obtain ⟨h1, h2⟩ := by_bits j hj
  rw [BitVec.getLsbD_and, BitVec.getLsbD_setWidth, BitVec.getLsbD_setWidth, BitVec.getLsbD_and, BitVec.getLsbD_ushiftRight, BitVec.getLsbD_sshiftRight, ← h1]
  by_cases h : j < 8
  · have e1 : s + j < 64 := by omega
    have e2 : ¬ 64 ≤ j := by omega
    simp [hj, e1, e2]
  · rw [h2 (by omega), Bool.and_false, Bool.and_false, Bool.and_false]
def byF (e : Int64) (i : Nat) : Nat := ((e.toBitVec >>> (8 * i)).setWidth 32 &&& 255#32).toNat
theorem byF_b (e : Int64) (i : Nat) : byF e i ≤ 255 := by
  unfold byF
  rw [BitVec.toNat_and]
  exact Nat.and_le_right
theorem nI_bv (x : BitVec 32) : nI x.toNat = ⟨⟨x⟩⟩ := by
  apply Int32.toBitVec_inj.mp
  show BitVec.ofNat 32 x.toNat = x
  rw [BitVec.ofNat_toNat]; exact BitVec.setWidth_eq ..
theorem by_c {e : Int64} {i : Nat} (hi : i < 8) : (((e.toUInt64 >>> ((nI (8 * i)).toInt64.toUInt64 &&& Int64.toUInt64 63)).toInt64).toInt32 &&& nI 255) = nI (byF e i) := by
  unfold byF
  rw [nI_bv]
  apply Int32.toBitVec_inj.mp
  rcases (show i = 0 ∨ i = 1 ∨ i = 2 ∨ i = 3 ∨ i = 4 ∨ i = 5 ∨ i = 6 ∨ i = 7 by omega) with h | h | h | h | h | h | h | h <;> subst h <;> exact congrArg (· &&& 255#32) (BitVec.signExtend_eq_setWidth_of_le _ (by decide))
theorem by_r {e : Int64} {i : Nat} (hi : i < 8) : (((e >>> ((nI (8 * i)).toInt64 &&& 63)) &&& 255).toInt32) = nI (byF e i) := by
  unfold byF
  rw [nI_bv, by_bv _ _ (by omega)]
  apply Int32.toBitVec_inj.mp
  rcases (show i = 0 ∨ i = 1 ∨ i = 2 ∨ i = 3 ∨ i = 4 ∨ i = 5 ∨ i = 6 ∨ i = 7 by omega) with h | h | h | h | h | h | h | h <;> subst h <;> exact BitVec.signExtend_eq_setWidth_of_le _ (by decide)
def fdB (b : Nat → Nat) (ln : Nat) (e : Int64) : Nat → Nat → Nat
  | 0 => b
  | k + 1 => un (fdB b ln e k) (ln + k) (byF e k)
theorem fdB_b {b : Nat → Nat} {ln : Nat} {e : Int64} (hb : ∀ i, b i ≤ 255) : ∀ k i, fdB b ln e k i ≤ 255
  | 0, i => hb i
  | k + 1, i => by
    show un (fdB b ln e k) (ln + k) (byF e k) i ≤ 255
    by_cases h : i = ln + k
    · rw [h, un_s]; exact byF_b e k
    · rw [un_n h]; exact fdB_b hb k i
/-- feed: the answer, the bytes, how many -/
def f_feed (b : Nat → Nat) (ln : Nat) (e : Int64) (y : Int32) : Int32 × (Nat → Nat) × Nat := if nI 1 ≤ y ∧ y ≤ nI 8 then (if ln + y.toNatClampNeg ≤ 200 then (nI (ln + y.toNatClampNeg), fdB b ln e y.toNatClampNeg, ln + y.toNatClampNeg) else (-2, b, ln)) else (-1, b, ln)
def MF (ν : Nat → va_E) (a : Nat) (b : Nat → Nat) (ln : Nat) : Nat → va_E := zu (zu ν 48 (.inl (0, 200, .inl (fun i => nI (b i))))) 47 (.inr (9, [.int (nI ln), .ref 48, .ref 49, .ref 50, .int (nI a)]))
theorem MF_47 {ν : Nat → va_E} {a ln : Nat} {b : Nat → Nat} : MF ν a b ln 47 = .inr (9, [.int (nI ln), .ref 48, .ref 49, .ref 50, .int (nI a)]) := by unfold MF; rw [zu_s]
theorem MF_48 {ν : Nat → va_E} {a ln : Nat} {b : Nat → Nat} : MF ν a b ln 48 = .inl (0, 200, .inl (fun i => nI (b i))) := by unfold MF; rw [zu_n (by decide), zu_s]
theorem MF_o {ν : Nat → va_E} {a ln : Nat} {b : Nat → Nat} {i : Nat} (h : i ≠ 47 ∧ i ≠ 48) : MF ν a b ln i = ν i := by unfold MF; rw [zu_n h.1, zu_n h.2]
theorem MF_s47 {ν : Nat → va_E} {a ln ln' : Nat} {b : Nat → Nat} : zu (MF ν a b ln) 47 (.inr (9, [.int (nI ln'), .ref 48, .ref 49, .ref 50, .int (nI a)])) = MF ν a b ln' := by unfold MF; rw [zu_zu]
theorem MF_s48 {ν : Nat → va_E} {a ln k x : Nat} {b : Nat → Nat} : zu (MF ν a b ln) 48 (.inl (0, 200, .inl (upd (fun i => nI (b i)) k (nI x)))) = MF ν a (un b k x) ln := by
  unfold MF
  rw [upd_nI, zu_sw (a := 47) (b := 48) (by decide), zu_zu]
theorem MF_id {ν : Nat → va_E} {a ln : Nat} {b : Nat → Nat} (h47 : ν 47 = .inr (9, [.int (nI ln), .ref 48, .ref 49, .ref 50, .int (nI a)])) (h48 : ν 48 = .inl (0, 200, .inl (fun i => nI (b i)))) : MF ν a b ln = ν := by
  unfold MF
  rw [zu_id h48, zu_id h47]
set_option maxHeartbeats 4000000 in
set_option maxRecDepth 100000 in
theorem l_Ta_takes {G : zG} {n u : Nat} {ν : Nat → va_E} {a ln k : Nat} {b : Nat → Nat} {e : Int64} (hk : k ≤ 8) (hl : ln + k ≤ 200) : ∀ r i, i + r = k → zW G 0 M_Ta_takes 3 [.ref 47, .long e, .retAddr 0, .int (nI k), .int (nI i)] [] n u (MF ν a (fdB b ln e i) (ln + i)) n u (zE (some (.int (nI (ln + k)))) (MF ν a (fdB b ln e k) (ln + k)))
  | 0, i, h => by
    have ek : i = k := by omega
    subst ek
    refine z_il4 (pc' := 5) 2 rfl rfl ?_
    refine z_il3 (pc' := 6) 3 rfl rfl ?_
    first | refine z_icmp_geN (pc' := 9) 4 rfl rfl (tgt := 56) rfl (by omega) (by omega) (fun h6 => ?_) (fun h6 => ?_) | refine z_icmp_ge (pc' := 9) 4 rfl rfl (tgt := 56) rfl (fun h6 => ?_) (fun h6 => ?_)
    · refine z_al0 (pc' := 57) 30 rfl rfl ?_
      refine z_getf (pc' := 60) 31 rfl rfl f_Ta_21_9 (by first | exact MF_47 | exact MF_48 | (rw [MF_o (by decide)]; assumption)) (by rfl) ?_
      exact z_ireturn 32 rfl rfl (by first | rfl | exact zbo_nar) rfl rfl (by exact ⟨rfl, rfl⟩)
    · exfalso; omega
  | r + 1, i, h => by
    refine z_il4 (pc' := 5) 2 rfl rfl ?_
    refine z_il3 (pc' := 6) 3 rfl rfl ?_
    first | refine z_icmp_geN (pc' := 9) 4 rfl rfl (tgt := 56) rfl (by omega) (by omega) (fun h6 => ?_) (fun h6 => ?_) | refine z_icmp_ge (pc' := 9) 4 rfl rfl (tgt := 56) rfl (fun h6 => ?_) (fun h6 => ?_)
    · exfalso; omega
    · refine z_al0 (pc' := 10) 5 rfl rfl ?_
      refine z_getf (pc' := 13) 6 rfl rfl f_Ta_21_9 (by first | exact MF_47 | exact MF_48 | (rw [MF_o (by decide)]; assumption)) (by rfl) ?_
      refine z_sipush (v := nI 200) (by decide) (pc' := 16) 7 rfl rfl ?_
      first | refine z_icmp_geN (pc' := 19) 8 rfl rfl (tgt := 56) rfl (by omega) (by omega) (fun h16 => ?_) (fun h16 => ?_) | refine z_icmp_ge (pc' := 19) 8 rfl rfl (tgt := 56) rfl (fun h16 => ?_) (fun h16 => ?_)
      · exfalso; omega
      · refine z_al0 (pc' := 20) 9 rfl rfl ?_
        refine z_getf (pc' := 23) 10 rfl rfl f_Ta_11_9 (by first | exact MF_47 | exact MF_48 | (rw [MF_o (by decide)]; assumption)) (by rfl) ?_
        refine z_al0 (pc' := 24) 11 rfl rfl ?_
        refine z_getf (pc' := 27) 12 rfl rfl f_Ta_21_9 (by first | exact MF_47 | exact MF_48 | (rw [MF_o (by decide)]; assumption)) (by rfl) ?_
        refine z_ll1 (pc' := 28) 13 rfl rfl ?_
        refine z_bipush (v := nI 8) (by decide) (pc' := 30) 14 rfl rfl ?_
        refine z_il4 (pc' := 32) 15 rfl rfl ?_
        first | refine z_imulN (pc' := 33) 16 rfl rfl ?_ | refine z_imul (pc' := 33) 16 rfl rfl ?_
        refine z_lushr (pc' := 34) 17 rfl rfl ?_
        refine z_l2i (pc' := 35) 18 rfl rfl ?_
        refine z_sipush (v := nI 255) (by decide) (pc' := 38) 19 rfl rfl ?_
        refine z_iand (pc' := 39) 20 rfl rfl ?_
        rw [by_c (by omega)]
        refine z_iast (pc' := 40) 21 rfl rfl (by first | exact MF_47 | exact MF_48 | (rw [MF_o (by decide)]; assumption)) (by omega) (by decide) ?_
        rw [MF_s48]
        refine z_al0 (pc' := 41) 22 rfl rfl ?_
        refine z_dup rfl (pc' := 42) 23 rfl rfl ?_
        refine z_getf (pc' := 45) 24 rfl rfl f_Ta_21_9 (by first | exact MF_47 | exact MF_48 | (rw [MF_o (by decide)]; assumption)) (by rfl) ?_
        refine z_iconst (v := nI 1) (by decide) (pc' := 46) 25 rfl rfl ?_
        first | refine z_iaddN (pc' := 47) 26 rfl rfl ?_ | refine z_iadd (pc' := 47) 26 rfl rfl ?_
        refine z_putf (pc' := 50) 27 rfl rfl f_Ta_21_9 (by first | exact MF_47 | exact MF_48 | (rw [MF_o (by decide)]; assumption)) rfl rfl (by rfl) (by rfl) ?_
        dsimp only [List.set]
        rw [MF_s47]
        first | refine z_inc4N rfl rfl (pc' := 53) 28 rfl rfl ?_ | refine z_inc4 rfl rfl rfl (pc' := 53) 28 rfl rfl ?_
        refine z_goto 29 rfl (tgt := 3) rfl ?_
        exact l_Ta_takes hk hl r (i + 1) (by omega)
set_option maxHeartbeats 4000000 in
set_option maxRecDepth 100000 in
theorem c_Ta_takes {G : zG} {n u : Nat} {ν : Nat → va_E} {a ln k : Nat} {b : Nat → Nat} {e : Int64} (hk : k ≤ 8) (hl : ln + k ≤ 200) : zMet G 0 M_Ta_takes [.ref 47, .long e, .int (nI k)] n u (MF ν a b ln) n u (zE (some (.int (nI (ln + k)))) (MF ν a (fdB b ln e k) (ln + k))) := by
  refine z_start (lv := [.ref 47, .long e, .retAddr 0, .int (nI k), .retAddr 0]) K_Ta_takes rfl rfl (Nat.le_refl _) (Nat.le_refl _) (Nat.le_of_ble_eq_true rfl) rfl ?_
  refine z_iconst (v := nI 0) (by decide) (pc' := 1) 0 rfl rfl ?_
  refine z_is4 rfl rfl (pc' := 3) 1 rfl rfl ?_
  exact l_Ta_takes (b := b) hk hl k 0 (by omega)
set_option maxHeartbeats 4000000 in
set_option maxRecDepth 100000 in
theorem c_Ta_hasRoomFor {G : zG} {n u : Nat} {ν : Nat → va_E} {a ln k : Nat} {b : Nat → Nat} (hk : k ≤ 8) (hln : ln ≤ 200) : zMet G 0 M_Ta_hasRoomFor [.ref 47, .int (nI k)] n u (MF ν a b ln) n u (zE (some (.int (zbo (ln + k ≤ 200)))) (MF ν a b ln)) := by
  refine z_start (lv := [.ref 47, .int (nI k)]) K_Ta_hasRoomFor rfl rfl (Nat.le_refl _) (Nat.le_refl _) (Nat.le_of_ble_eq_true rfl) rfl ?_
  refine z_al0 (pc' := 1) 0 rfl rfl ?_
  refine z_getf (pc' := 4) 1 rfl rfl f_Ta_21_9 (by first | exact MF_47 | exact MF_48 | (rw [MF_o (by decide)]; assumption)) (by rfl) ?_
  refine z_il1 (pc' := 5) 2 rfl rfl ?_
  first | refine z_iaddN (pc' := 6) 3 rfl rfl ?_ | refine z_iadd (pc' := 6) 3 rfl rfl ?_
  refine z_sipush (v := nI 200) (by decide) (pc' := 9) 4 rfl rfl ?_
  first | refine z_icmp_gtN (pc' := 12) 5 rfl rfl (tgt := 16) rfl (by omega) (by omega) (fun h9 => ?_) (fun h9 => ?_) | refine z_icmp_gt (pc' := 12) 5 rfl rfl (tgt := 16) rfl (fun h9 => ?_) (fun h9 => ?_)
  · refine z_iconst (v := nI 0) (by decide) (pc' := 17) 8 rfl rfl ?_
    exact z_ireturn 9 rfl rfl (by first | rfl | exact zbo_nar) rfl rfl (by exact ⟨by rw [zbo_f (by omega)], rfl⟩)
  · refine z_iconst (v := nI 1) (by decide) (pc' := 13) 6 rfl rfl ?_
    refine z_goto 7 rfl (tgt := 17) rfl ?_
    exact z_ireturn 9 rfl rfl (by first | rfl | exact zbo_nar) rfl rfl (by exact ⟨by rw [zbo_t (by omega)], rfl⟩)
def cFd (μ : Nat → va_E) (tk : Nat → Nat) (p : Int32 × (Nat → Nat) × Nat) : zP := fun r μ' => r = some (.int p.1) ∧ isTa μ' p.2.1 p.2.2 tk ∧ ∀ i, i ≠ 47 → i ≠ 48 → μ' i = μ i
set_option maxHeartbeats 4000000 in
set_option maxRecDepth 100000 in
theorem c_Wb_feed {G : zG} {n u : Nat} {μ : Nat → va_E} {kp : Int32} {ac : Value} (hob : isOb μ kp ac) {b tk : Nat → Nat} {ln : Nat} (hta : isTa μ b ln tk) (e : Int64) (y : Int32) : zMet G 1 M_Wb_feed [.ref 4, .long e, .int y] n u μ n u (cFd μ tk (f_feed b ln e y)) := by
  have hta0 := hta
  obtain ⟨hb, hln, htk, h48, h49, ⟨pl, h50⟩, ⟨at9, h47⟩, c, z, kd, de, bg, c4, hd, hbg⟩ := hta
  have hta0 : isTa (MF μ at9 b ln) b ln tk := by rw [MF_id h47 h48]; exact hta0
  refine z_start (lv := [.ref 4, .long e, .retAddr 0, .int y]) K_Wb_feed rfl rfl (Nat.le_refl _) (Nat.le_refl _) (Nat.le_of_ble_eq_true rfl) rfl ?_
  unfold isOb at hob
  refine z_mu (MF_id h47 h48).symm ?_
  refine z_il3 (pc' := 1) 0 rfl rfl ?_
  refine z_iconst (v := nI 1) (by decide) (pc' := 2) 1 rfl rfl ?_
  refine z_bipush (v := nI 8) (by decide) (pc' := 4) 2 rfl rfl ?_
  refine z_callS1 (pc' := 7) 3 rfl rfl k_Wb_72 (c_Wb_within _ _ _) (by decide) (Nat.le_refl _) (Nat.le_refl _) rfl rfl (Nat.le_of_ble_eq_true rfl) ?_
  first | refine z_if_neB (pc' := 10) 4 rfl rfl (tgt := 12) rfl (fun h7 => ?_) (fun h7 => ?_) | refine z_if_neN (pc' := 10) 4 rfl rfl (tgt := 12) rfl (by omega) (fun h7 => ?_) (fun h7 => ?_) | refine z_if_ne (pc' := 10) 4 rfl rfl (tgt := 12) rfl (fun h7 => ?_) (fun h7 => ?_)
  · obtain ⟨k, k1, k8, ey⟩ := z_wi h7 (by decide) (by decide)
    subst ey
    refine z_al0 (pc' := 13) 7 rfl rfl ?_
    refine z_getf (pc' := 16) 8 rfl rfl f_Wb_29_11 (by first | exact MF_47 | exact MF_48 | (rw [MF_o (by decide)]; assumption)) (by rfl) ?_
    refine z_il3 (pc' := 17) 9 rfl rfl ?_
    refine z_callV1 (pc' := 20) 10 rfl rfl k_Wb_159 (by first | exact MF_47 | exact MF_48 | (rw [MF_o (by decide)]; assumption)) (c_Ta_hasRoomFor k8 hln) (by decide) (Nat.le_refl _) (Nat.le_refl _) rfl rfl (Nat.le_of_ble_eq_true rfl) ?_
    first | refine z_if_neB (pc' := 23) 11 rfl rfl (tgt := 26) rfl (fun h20 => ?_) (fun h20 => ?_) | refine z_if_neN (pc' := 23) 11 rfl rfl (tgt := 26) rfl (by omega) (fun h20 => ?_) (fun h20 => ?_) | refine z_if_ne (pc' := 23) 11 rfl rfl (tgt := 26) rfl (fun h20 => ?_) (fun h20 => ?_)
    · refine z_al0 (pc' := 27) 14 rfl rfl ?_
      refine z_getf (pc' := 30) 15 rfl rfl f_Wb_29_11 (by first | exact MF_47 | exact MF_48 | (rw [MF_o (by decide)]; assumption)) (by rfl) ?_
      refine z_ll1 (pc' := 31) 16 rfl rfl ?_
      refine z_il3 (pc' := 32) 17 rfl rfl ?_
      refine z_callV1 (pc' := 35) 18 rfl rfl k_Wb_162 (by first | exact MF_47 | exact MF_48 | (rw [MF_o (by decide)]; assumption)) (c_Ta_takes k8 h20) (by decide) (Nat.le_refl _) (Nat.le_refl _) rfl rfl (Nat.le_of_ble_eq_true rfl) ?_
      exact z_ireturn 19 rfl rfl (by first | rfl | exact zbo_nar) rfl rfl (by rw [f_feed, if_pos h7, nI_clamp (by omega), if_pos h20]; exact ⟨rfl, ⟨fdB_b hb k, h20, htk, MF_48, by rw [MF_o (by decide)]; exact h49, ⟨pl, by rw [MF_o (by decide)]; exact h50⟩, ⟨at9, MF_47⟩, c, z, kd, de, bg, c4, isBI_fr hd (fun i a1 a2 => MF_o (by omega)), hbg⟩, fun i a1 a2 => MF_o ⟨a1, a2⟩⟩)
    · refine z_bipush (v := (-2)) (by decide) (pc' := 25) 12 rfl rfl ?_
      exact z_ireturn 13 rfl rfl (by first | rfl | exact zbo_nar) rfl rfl (by rw [f_feed, if_pos h7, nI_clamp (by omega), if_neg h20]; exact ⟨rfl, hta0, fun i a1 a2 => MF_o ⟨a1, a2⟩⟩)
  · refine z_iconst (v := (-1)) (by decide) (pc' := 11) 5 rfl rfl ?_
    exact z_ireturn 6 rfl rfl (by first | rfl | exact zbo_nar) rfl rfl (by rw [f_feed, if_neg h7]; exact ⟨rfl, hta0, fun i a1 a2 => MF_o ⟨a1, a2⟩⟩)
theorem pm_92 {ν : Nat → va_E} {s m : Nat → Int32} {b : Nat → Nat} {k x : Nat} : zu (pm (zu ν 92 (.inl (0, 200, .inl (fun j => nI (b j))))) s m) 92 (.inl (0, 200, .inl (upd (fun j => nI (b j)) k (nI x)))) = pm (zu ν 92 (.inl (0, 200, .inl (fun j => nI (un b k x j))))) s m := by
  unfold pm
  rw [upd_nI]
  rw [zu_sw (a := 89) (b := 92) (by decide), zu_sw (a := 88) (b := 92) (by decide), zu_zu]
set_option maxHeartbeats 4000000 in
set_option maxRecDepth 100000 in
theorem l_Mo_feed {G : zG} {n u : Nat} {ν : Nat → va_E} {s m : Nat → Int32} {ln k : Nat} {b : Nat → Nat} {e : Int64} (hk : k ≤ 8) (hl : ln + k ≤ 200) : ∀ r i, i + r = k → zW G 1 M_Mo_feed 30 [.ref 88, .long e, .retAddr 0, .int (nI k), .int (nI i)] [] n u (pm (zu ν 92 (.inl (0, 200, .inl (fun j => nI (fdB b ln e i j))))) (un s 5 (nI (ln + i))) m) n u (zE (some (.int (nI (ln + k)))) (pm (zu ν 92 (.inl (0, 200, .inl (fun j => nI (fdB b ln e k j))))) (un s 5 (nI (ln + k))) m))
  | 0, i, h => by
    have ek : i = k := by omega
    subst ek
    refine z_il4 (pc' := 32) 17 rfl rfl ?_
    refine z_il3 (pc' := 33) 18 rfl rfl ?_
    first | refine z_icmp_geN (pc' := 36) 19 rfl rfl (tgt := 73) rfl (by omega) (by omega) (fun h33 => ?_) (fun h33 => ?_) | refine z_icmp_ge (pc' := 36) 19 rfl rfl (tgt := 73) rfl (fun h33 => ?_) (fun h33 => ?_)
    · refine z_al0 (pc' := 74) 41 rfl rfl ?_
      refine z_getf (pc' := 77) 42 rfl rfl f_Mo_128_12 (by first | exact pm_f | exact pm_1 | (rw [pm_o (by decide)]; exact zu_s)) (by rfl) ?_
      rw [show un s 5 (nI (ln + i)) 5 = nI (ln + i) from rfl]
      exact z_ireturn 43 rfl rfl (by first | rfl | exact zbo_nar) rfl rfl (by exact ⟨rfl, rfl⟩)
    · exfalso; omega
  | r + 1, i, h => by
    refine z_il4 (pc' := 32) 17 rfl rfl ?_
    refine z_il3 (pc' := 33) 18 rfl rfl ?_
    first | refine z_icmp_geN (pc' := 36) 19 rfl rfl (tgt := 73) rfl (by omega) (by omega) (fun h33 => ?_) (fun h33 => ?_) | refine z_icmp_ge (pc' := 36) 19 rfl rfl (tgt := 73) rfl (fun h33 => ?_) (fun h33 => ?_)
    · exfalso; omega
    · refine z_al0 (pc' := 37) 20 rfl rfl ?_
      refine z_getf (pc' := 40) 21 rfl rfl f_Mo_19_12 (by first | exact pm_f | exact pm_1 | (rw [pm_o (by decide)]; exact zu_s)) (by rfl) ?_
      refine z_al0 (pc' := 41) 22 rfl rfl ?_
      refine z_getf (pc' := 44) 23 rfl rfl f_Mo_128_12 (by first | exact pm_f | exact pm_1 | (rw [pm_o (by decide)]; exact zu_s)) (by rfl) ?_
      rw [show un s 5 (nI (ln + i)) 5 = nI (ln + i) from rfl]
      refine z_ll1 (pc' := 45) 24 rfl rfl ?_
      refine z_bipush (v := nI 8) (by decide) (pc' := 47) 25 rfl rfl ?_
      refine z_il4 (pc' := 49) 26 rfl rfl ?_
      first | refine z_imulN (pc' := 50) 27 rfl rfl ?_ | refine z_imul (pc' := 50) 27 rfl rfl ?_
      refine z_lshr (pc' := 51) 28 rfl rfl ?_
      refine z_ldc2 l_Mo_132 (pc' := 54) 29 rfl rfl ?_
      refine z_land (pc' := 55) 30 rfl rfl ?_
      refine z_l2i (pc' := 56) 31 rfl rfl ?_
      rw [by_r (by omega)]
      refine z_iast (pc' := 57) 32 rfl rfl (by first | exact pm_f | exact pm_1 | (rw [pm_o (by decide)]; exact zu_s)) (by omega) (by decide) ?_
      rw [pm_92]
      refine z_al0 (pc' := 58) 33 rfl rfl ?_
      refine z_dup rfl (pc' := 59) 34 rfl rfl ?_
      refine z_getf (pc' := 62) 35 rfl rfl f_Mo_128_12 (by first | exact pm_f | exact pm_1 | (rw [pm_o (by decide)]; exact zu_s)) (by rfl) ?_
      rw [show un s 5 (nI (ln + i)) 5 = nI (ln + i) from rfl]
      refine z_iconst (v := nI 1) (by decide) (pc' := 63) 36 rfl rfl ?_
      first | refine z_iaddN (pc' := 64) 37 rfl rfl ?_ | refine z_iadd (pc' := 64) 37 rfl rfl ?_
      refine z_putf (pc' := 67) 38 rfl rfl f_Mo_128_12 (by first | exact pm_f | exact pm_1 | (rw [pm_o (by decide)]; exact zu_s)) rfl rfl (by rfl) (by rfl) ?_
      dsimp only [List.set]
      rw [mob_5, pm_s0, un_un]
      first | refine z_inc4N rfl rfl (pc' := 70) 39 rfl rfl ?_ | refine z_inc4 rfl rfl rfl (pc' := 70) 39 rfl rfl ?_
      refine z_goto 40 rfl (tgt := 30) rfl ?_
      exact l_Mo_feed hk hl r (i + 1) (by omega)
theorem mst_92 {μ : Nat → va_E} {s : Nat → Int32} {κ : zκ} {e : va_E} (h : mst μ s κ) : mst (zu μ 92 e) s κ := by
  obtain ⟨S, mo, pr, fa, sc, ch, rc, D⟩ := κ
  obtain ⟨⟨ρ, h1, hD⟩, h2, ⟨q93, h93⟩, ⟨q91, h91⟩, ⟨q94, h94⟩, ⟨q95, h95⟩, ⟨q96, h96⟩, ⟨q97, h97⟩, h5⟩ := h
  exact ⟨⟨ρ, by rw [zu_n (by decide)]; exact h1, hD⟩, by rw [zu_n (by decide)]; exact h2, ⟨q93, by rw [zu_n (by decide)]; exact h93⟩, ⟨q91, by rw [zu_n (by decide)]; exact h91⟩, ⟨q94, by rw [zu_n (by decide)]; exact h94⟩, ⟨q95, by rw [zu_n (by decide)]; exact h95⟩, ⟨q96, by rw [zu_n (by decide)]; exact h96⟩, ⟨q97, by rw [zu_n (by decide)]; exact h97⟩, h5⟩
def mFd (μ : Nat → va_E) (s : Nat → Int32) (κ : zκ) (p : Int32 × (Nat → Nat) × Nat) : zP := fun r μ' => r = some (.int p.1) ∧ ∃ s' : Nat → Int32, (s' 3 = s 3 ∧ s' 5 = nI p.2.2 ∧ s' 23 = s 23 ∧ s' 32 = s 32) ∧ mst μ' s' κ ∧ μ' 92 = .inl (0, 200, .inl (fun j => nI (p.2.1 j))) ∧ ∀ i, i ≠ 88 → i ≠ 92 → μ' i = μ i
theorem mFd_of {μ : Nat → va_E} {s : Nat → Int32} {S : Nat → Nat → Nat} {mo : Nat} {pr fa : Nat → Nat} {sc ch : Int32} {rc : Nat} {ρ : Nat → Int32} {D : zD6} (h : mst μ s (S, mo, pr, fa, sc, ch, rc, D)) (h1 : μ 89 = .inl (0, 618, .inl (mk S mo pr fa sc ch rc ρ))) (hD : dzM ρ rc D) (hk : iK (S, mo, pr, fa, sc, ch, rc, D)) {r : Int32} {b : Nat → Nat} {ln : Nat} : mFd μ s (S, mo, pr, fa, sc, ch, rc, D) (r, b, ln) (some (.int r)) (pm (zu μ 92 (.inl (0, 200, .inl (fun j => nI (b j))))) (un s 5 (nI ln)) (mk S mo pr fa sc ch rc ρ)) := by
  refine ⟨rfl, un s 5 (nI ln), ⟨rfl, rfl, rfl, rfl⟩, mst_pm (mst_92 h) hD hk, by rw [pm_o (by decide), zu_s], fun i a1 a2 => ?_⟩
  by_cases e : i = 89
  · subst e; rw [pm_1, h1]
  · rw [pm_o (by omega), zu_n a2]
set_option maxHeartbeats 4000000 in
set_option maxRecDepth 100000 in
theorem c_Mo_feed {G : zG} {n u : Nat} {μ : Nat → va_E} {κ : zκ} {s : Nat → Int32} (h : mst μ s κ) {b : Nat → Nat} {ln : Nat} (h92 : μ 92 = .inl (0, 200, .inl (fun i => nI (b i)))) (hln : ln ≤ 200) (hs5 : s 5 = nI ln) (e : Int64) (y : Int32) : zMet G 1 M_Mo_feed [.ref 88, .long e, .int y] n u μ n u (mFd μ s κ (f_feed b ln e y)) := by
  obtain ⟨S, mo, pr, fa, sc, ch, rc, D⟩ := κ
  have hst := h
  obtain ⟨⟨ρ, h1, hD⟩, h2, ⟨q93, h93⟩, ⟨q91, h91⟩, ⟨q94, h94⟩, ⟨q95, h95⟩, ⟨q96, h96⟩, ⟨q97, h97⟩, h5⟩ := h
  have hk5 := h5
  obtain ⟨hi, hx, hmo, hrc⟩ := h5
  have hi0 := hi.1
  have hi1 := hi.2.1
  have hi2 := hi.2.2.1
  have hi3 := hi.2.2.2.2.1
  refine z_start (lv := [.ref 88, .long e, .retAddr 0, .int y, .retAddr 0]) K_Mo_feed rfl rfl (Nat.le_refl _) (Nat.le_refl _) (Nat.le_of_ble_eq_true rfl) rfl ?_
  refine z_mu (show μ = (pm (zu μ 92 (.inl (0, 200, .inl (fun j => nI (b j))))) (un s 5 (nI ln)) (mk S mo pr fa sc ch rc ρ)) by rw [zu_id h92, ← hs5, un_id, pm_id h2 h1]) ?_
  refine z_il3 (pc' := 1) 0 rfl rfl ?_
  refine z_iconst (v := nI 1) (by decide) (pc' := 2) 1 rfl rfl ?_
  refine z_bipush (v := nI 8) (by decide) (pc' := 4) 2 rfl rfl ?_
  refine z_callS1 (pc' := 7) 3 rfl rfl k_Mo_67 (c_Mo_in _ _ _) (by decide) (Nat.le_refl _) (Nat.le_refl _) rfl rfl (Nat.le_of_ble_eq_true rfl) ?_
  first | refine z_if_neB (pc' := 10) 4 rfl rfl (tgt := 12) rfl (fun h7 => ?_) (fun h7 => ?_) | refine z_if_neN (pc' := 10) 4 rfl rfl (tgt := 12) rfl (by omega) (fun h7 => ?_) (fun h7 => ?_) | refine z_if_ne (pc' := 10) 4 rfl rfl (tgt := 12) rfl (fun h7 => ?_) (fun h7 => ?_)
  · obtain ⟨k, k1, k8, ey⟩ := z_wi h7 (by decide) (by decide)
    subst ey
    refine z_al0 (pc' := 13) 7 rfl rfl ?_
    refine z_getf (pc' := 16) 8 rfl rfl f_Mo_128_12 (by first | exact pm_f | exact pm_1 | (rw [pm_o (by decide)]; exact zu_s)) (by rfl) ?_
    rw [show un s 5 (nI ln) 5 = nI ln from rfl]
    refine z_il3 (pc' := 17) 9 rfl rfl ?_
    first | refine z_iaddN (pc' := 18) 10 rfl rfl ?_ | refine z_iadd (pc' := 18) 10 rfl rfl ?_
    refine z_sipush (v := nI 200) (by decide) (pc' := 21) 11 rfl rfl ?_
    first | refine z_icmp_leN (pc' := 24) 12 rfl rfl (tgt := 27) rfl (by omega) (by omega) (fun h21 => ?_) (fun h21 => ?_) | refine z_icmp_le (pc' := 24) 12 rfl rfl (tgt := 27) rfl (fun h21 => ?_) (fun h21 => ?_)
    · refine z_iconst (v := nI 0) (by decide) (pc' := 28) 15 rfl rfl ?_
      refine z_is4 rfl rfl (pc' := 30) 16 rfl rfl ?_
      rw [f_feed, if_pos h7, nI_clamp (by omega), if_pos (by omega)]
      exact zW_to (l_Mo_feed (b := b) (ln := ln) k8 (by omega) k 0 (by omega)) (mFd_of hst h1 hD hk5)
    · refine z_bipush (v := (-2)) (by decide) (pc' := 26) 13 rfl rfl ?_
      exact z_ireturn 14 rfl rfl (by first | rfl | exact zbo_nar) rfl rfl (by rw [f_feed, if_pos h7, nI_clamp (by omega), if_neg (by omega)]; exact mFd_of hst h1 hD hk5)
  · refine z_iconst (v := (-1)) (by decide) (pc' := 11) 5 rfl rfl ?_
    exact z_ireturn 6 rfl rfl (by first | rfl | exact zbo_nar) rfl rfl (by rw [f_feed, if_neg h7]; exact mFd_of hst h1 hD hk5)
