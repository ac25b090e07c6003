/-! ===== the class's rules() ===== -/
def MS (ν : Nat → va_E) (a pl : Nat → Nat) : Nat → va_E := zu (zu ν 49 (.inl (0, 201, .inl (fun j => nI (a j))))) 50 (.inl (0, 201, .inl (fun j => nI (pl j))))
theorem upd_nI {f : Nat → Nat} {k x : Nat} : upd (fun i => nI (f i)) k (nI x) = fun i => nI (un f k x i) := by
  funext i
  by_cases h : i = k
  · subst h; rw [upd_at, un_s]
  · rw [upd_no h, un_n h]
section MSs
variable {ν : Nat → va_E} {a pl : Nat → Nat}
theorem MS_49 : MS ν a pl 49 = .inl (0, 201, .inl (fun j => nI (a j))) := by unfold MS; rw [zu_n (by decide), zu_s]
theorem MS_50 : MS ν a pl 50 = .inl (0, 201, .inl (fun j => nI (pl j))) := by unfold MS; rw [zu_s]
theorem MS_o {i : Nat} (h : i ≠ 49 ∧ i ≠ 50) : MS ν a pl i = ν i := by unfold MS; rw [zu_n h.2, zu_n h.1]
theorem MS_s49 {k x : Nat} : zu (MS ν a pl) 49 (.inl (0, 201, .inl (upd (fun i => nI (a i)) k (nI x)))) = MS ν (un a k x) pl := by
  unfold MS
  rw [upd_nI, zu_sw (a := 50) (b := 49) (by decide), zu_zu]
theorem MS_s50 {k x : Nat} : zu (MS ν a pl) 50 (.inl (0, 201, .inl (upd (fun i => nI (pl i)) k (nI x)))) = MS ν a (un pl k x) := by
  unfold MS
  rw [upd_nI, zu_zu]
theorem MS_id (h1 : ν 49 = .inl (0, 201, .inl (fun j => nI (a j)))) (h2 : ν 50 = .inl (0, 201, .inl (fun j => nI (pl j)))) : MS ν a pl = ν := by
  unfold MS
  rw [zu_id h1, zu_id h2]
theorem MT_g47 {ln ln' : Nat} {c : Int32} {kd de bg : Nat → Int32} {j j' z : Nat} {c4 : Nat → Nat} : zu (MT ν ln c kd de bg j z c4) 47 (.inr (9, [.int (nI ln'), .ref 48, .ref 49, .ref 50, .int (nI j')])) = MT ν ln' c kd de bg j' z c4 := by
  unfold MT
  rw [pbk_out (by omega), zu_zu]
  rfl
end MSs
def spP (ν : Nat → va_E) (b : Nat → Nat) (ln : Nat) (tk : Nat → Nat) : zP := fun r μ' => r = none ∧ ∃ pl' : Nat → Nat, μ' = MS ν (tcF b ln tk) pl' ∧ ∀ j, j ≤ NF b ln → pl' j = tpF b ln j
set_option maxHeartbeats 4000000 in
set_option maxRecDepth 100000 in
theorem l_Ta_split {G : zG} {n u : Nat} {ν : Nat → va_E} {b : Nat → Nat} {ln at9 : Nat} (h47 : ν 47 = .inr (9, [.int (nI ln), .ref 48, .ref 49, .ref 50, .int (nI at9)])) (h48 : ν 48 = .inl (0, 200, .inl (fun i => nI (b i)))) (hb : ∀ i, b i ≤ 255) (hln : ln ≤ 200) {tk : Nat → Nat} : ∀ k i c (a pl : Nat → Nat), i + k = ln → tpF b ln c = nx b k i → c ≤ i → c ≤ NF b ln → (∀ j, j < c → a j = tkF b ln (tpF b ln j) ∧ pl j = tpF b ln j) → (∀ j, c ≤ j → a j = tk j) → zW G 7 M_Ta_split 4 [.ref 47, .int (nI c), .int (nI i)] [] n u (MS ν a pl) n u (spP ν b ln tk)
  | 0, i, c, a, pl, e, ht, hc, hcN, h1, h2 => by
    have eN : c = NF b ln := by
      refine Classical.byContradiction (fun z => ?_)
      have := (NF_s b ln).2.2 c (by omega)
      have ht : tpF b ln c = i := ht
      omega
    have ea : un a c 25 = tcF b ln tk := by
      funext j
      unfold tcF
      by_cases q : j < NF b ln
      · rw [if_pos q, un_n (by omega)]; exact (h1 j (by omega)).1
      · rw [if_neg q]
        by_cases q2 : j = NF b ln
        · rw [if_pos q2, q2, ← eN, un_s]
        · rw [if_neg q2, un_n (by omega)]; exact h2 j (by omega)
    have ep : ∀ j, j ≤ NF b ln → un pl c ln j = tpF b ln j := fun j hj => by
      by_cases q : j = c
      · rw [q, un_s, eN, (NF_s b ln).2.1]
      · rw [un_n q]; exact (h1 j (by omega)).2
    refine z_il2 (pc' := 5) 4 rfl rfl ?_
    refine z_al0 (pc' := 6) 5 rfl rfl ?_
    refine z_getf (pc' := 9) 6 rfl rfl f_Ta_21_9 (by first | exact MS_49 | exact MS_50 | (rw [MS_o (by decide)]; assumption)) (by rfl) ?_
    first | refine z_icmp_geN (pc' := 12) 7 rfl rfl (tgt := 58) rfl (by omega) (by omega) (fun h9 => ?_) (fun h9 => ?_) | refine z_icmp_ge (pc' := 12) 7 rfl rfl (tgt := 58) rfl (fun h9 => ?_) (fun h9 => ?_)
    · refine z_al0 (pc' := 59) 33 rfl rfl ?_
      refine z_getf (pc' := 62) 34 rfl rfl f_Ta_15_9 (by first | exact MS_49 | exact MS_50 | (rw [MS_o (by decide)]; assumption)) (by rfl) ?_
      refine z_il1 (pc' := 63) 35 rfl rfl ?_
      refine z_bipush (v := nI 25) (by decide) (pc' := 65) 36 rfl rfl ?_
      refine z_iast (pc' := 66) 37 rfl rfl (by first | exact MS_49 | exact MS_50 | (rw [MS_o (by decide)]; assumption)) (by omega) (by decide) ?_
      rw [MS_s49]
      refine z_al0 (pc' := 67) 38 rfl rfl ?_
      refine z_getf (pc' := 70) 39 rfl rfl f_Ta_18_9 (by first | exact MS_49 | exact MS_50 | (rw [MS_o (by decide)]; assumption)) (by rfl) ?_
      refine z_il1 (pc' := 71) 40 rfl rfl ?_
      refine z_al0 (pc' := 72) 41 rfl rfl ?_
      refine z_getf (pc' := 75) 42 rfl rfl f_Ta_21_9 (by first | exact MS_49 | exact MS_50 | (rw [MS_o (by decide)]; assumption)) (by rfl) ?_
      refine z_iast (pc' := 76) 43 rfl rfl (by first | exact MS_49 | exact MS_50 | (rw [MS_o (by decide)]; assumption)) (by omega) (by decide) ?_
      rw [MS_s50]
      exact z_return 44 rfl rfl rfl rfl (by exact ⟨rfl, _, by rw [ea], ep⟩)
    · exfalso; omega
  | k + 1, i, c, a, pl, e, ht, hc, hcN, h1, h2 => by
    have hbi := hb i
    refine z_il2 (pc' := 5) 4 rfl rfl ?_
    refine z_al0 (pc' := 6) 5 rfl rfl ?_
    refine z_getf (pc' := 9) 6 rfl rfl f_Ta_21_9 (by first | exact MS_49 | exact MS_50 | (rw [MS_o (by decide)]; assumption)) (by rfl) ?_
    first | refine z_icmp_geN (pc' := 12) 7 rfl rfl (tgt := 58) rfl (by omega) (by omega) (fun h9 => ?_) (fun h9 => ?_) | refine z_icmp_ge (pc' := 12) 7 rfl rfl (tgt := 58) rfl (fun h9 => ?_) (fun h9 => ?_)
    · exfalso; omega
    · refine z_al0 (pc' := 13) 8 rfl rfl ?_
      refine z_getf (pc' := 16) 9 rfl rfl f_Ta_11_9 (by first | exact MS_49 | exact MS_50 | (rw [MS_o (by decide)]; assumption)) (by rfl) ?_
      refine z_il2 (pc' := 17) 10 rfl rfl ?_
      refine z_iald (pc' := 18) 11 rfl rfl (by first | exact MS_49 | exact MS_50 | (rw [MS_o (by decide)]; assumption)) (by omega) (by decide) ?_
      refine z_bipush (v := nI 32) (by decide) (pc' := 20) 12 rfl rfl ?_
      first | refine z_icmp_eqN (pc' := 23) 13 rfl rfl (tgt := 52) rfl (by omega) (by omega) (fun h20 => ?_) (fun h20 => ?_) | refine z_icmp_eq (pc' := 23) 13 rfl rfl (tgt := 52) rfl (fun h20 => ?_) (fun h20 => ?_)
      · first | refine z_inc2N rfl rfl (pc' := 55) 31 rfl rfl ?_ | refine z_inc2 rfl rfl rfl (pc' := 55) 31 rfl rfl ?_
        refine z_goto 32 rfl (tgt := 4) rfl ?_
        exact l_Ta_split h47 h48 hb hln k (i + 1) c a pl (by omega) (by rw [ht]; exact if_neg (fun z => z.1 h20)) (by omega) hcN h1 h2
      · refine z_al0 (pc' := 24) 14 rfl rfl ?_
        refine z_il2 (pc' := 25) 15 rfl rfl ?_
        refine z_callV1 (pc' := 28) 16 rfl rfl k_Ta_43 (by first | exact MS_49 | exact MS_50 | (rw [MS_o (by decide)]; assumption)) (c_Ta_goesOn (by rw [MS_o (by decide)]; exact h47) (by rw [MS_o (by decide)]; exact h48) hb hln (by omega)) (by decide) (Nat.le_refl _) (Nat.le_refl _) rfl rfl (Nat.le_of_ble_eq_true rfl) ?_
        first | refine z_if_neB (pc' := 31) 17 rfl rfl (tgt := 52) rfl (fun h28 => ?_) (fun h28 => ?_) | refine z_if_neN (pc' := 31) 17 rfl rfl (tgt := 52) rfl (by omega) (fun h28 => ?_) (fun h28 => ?_) | refine z_if_ne (pc' := 31) 17 rfl rfl (tgt := 52) rfl (fun h28 => ?_) (fun h28 => ?_)
        · first | refine z_inc2N rfl rfl (pc' := 55) 31 rfl rfl ?_ | refine z_inc2 rfl rfl rfl (pc' := 55) 31 rfl rfl ?_
          refine z_goto 32 rfl (tgt := 4) rfl ?_
          exact l_Ta_split h47 h48 hb hln k (i + 1) c a pl (by omega) (by rw [ht]; exact if_neg (fun z => z.2 h28)) (by omega) hcN h1 h2
        · have hst : stt b i := ⟨h20, h28⟩
          have hti : tpF b ln c = i := by rw [ht]; exact if_pos hst
          refine z_al0 (pc' := 32) 18 rfl rfl ?_
          refine z_getf (pc' := 35) 19 rfl rfl f_Ta_15_9 (by first | exact MS_49 | exact MS_50 | (rw [MS_o (by decide)]; assumption)) (by rfl) ?_
          refine z_il1 (pc' := 36) 20 rfl rfl ?_
          refine z_al0 (pc' := 37) 21 rfl rfl ?_
          refine z_il2 (pc' := 38) 22 rfl rfl ?_
          refine z_callV1 (pc' := 41) 23 rfl rfl k_Ta_47 (by first | exact MS_49 | exact MS_50 | (rw [MS_o (by decide)]; assumption)) (c_Ta_tokenOf (by rw [MS_o (by decide)]; exact h47) (by rw [MS_o (by decide)]; exact h48) hb hln (by omega)) (by decide) (Nat.le_refl _) (Nat.le_refl _) rfl rfl (Nat.le_of_ble_eq_true rfl) ?_
          refine z_iast (pc' := 42) 24 rfl rfl (by first | exact MS_49 | exact MS_50 | (rw [MS_o (by decide)]; assumption)) (by omega) (by decide) ?_
          rw [MS_s49]
          refine z_al0 (pc' := 43) 25 rfl rfl ?_
          refine z_getf (pc' := 46) 26 rfl rfl f_Ta_18_9 (by first | exact MS_49 | exact MS_50 | (rw [MS_o (by decide)]; assumption)) (by rfl) ?_
          refine z_il1 (pc' := 47) 27 rfl rfl ?_
          refine z_il2 (pc' := 48) 28 rfl rfl ?_
          refine z_iast (pc' := 49) 29 rfl rfl (by first | exact MS_49 | exact MS_50 | (rw [MS_o (by decide)]; assumption)) (by omega) (by decide) ?_
          rw [MS_s50]
          first | refine z_inc1N rfl rfl (pc' := 52) 30 rfl rfl ?_ | refine z_inc1 rfl rfl rfl (pc' := 52) 30 rfl rfl ?_
          first | refine z_inc2N rfl rfl (pc' := 55) 31 rfl rfl ?_ | refine z_inc2 rfl rfl rfl (pc' := 55) 31 rfl rfl ?_
          refine z_goto 32 rfl (tgt := 4) rfl ?_
          refine l_Ta_split h47 h48 hb hln k (i + 1) (c + 1) _ _ (by omega) ?_ (by omega) ?_ (fun j hj => ?_) (fun j hj => ?_)
          · show nx b (ln - (tpF b ln c + 1)) (tpF b ln c + 1) = _
            rw [hti, show ln - (i + 1) = k by omega]
          · have : c ≠ NF b ln := fun z => by rw [z, (NF_s b ln).2.1] at hti; omega
            omega
          · by_cases q : j = c
            · rw [q, un_s, un_s, hti]; exact ⟨rfl, rfl⟩
            · rw [un_n q, un_n q]; exact h1 j (by omega)
          · rw [un_n (by omega)]; exact h2 j (by omega)
set_option maxHeartbeats 4000000 in
set_option maxRecDepth 100000 in
theorem c_Ta_split {G : zG} {n u : Nat} {ν : Nat → va_E} {b : Nat → Nat} {ln at9 : Nat} (h47 : ν 47 = .inr (9, [.int (nI ln), .ref 48, .ref 49, .ref 50, .int (nI at9)])) (h48 : ν 48 = .inl (0, 200, .inl (fun i => nI (b i)))) (hb : ∀ i, b i ≤ 255) (hln : ln ≤ 200) {tk pl : Nat → Nat} : zMet G 7 M_Ta_split [.ref 47] n u (MS ν tk pl) n u (spP ν b ln tk) := by
  refine z_start (lv := [.ref 47, .retAddr 0, .retAddr 0]) K_Ta_split rfl rfl (Nat.le_refl _) (Nat.le_refl _) (Nat.le_of_ble_eq_true rfl) rfl ?_
  refine z_iconst (v := nI 0) (by decide) (pc' := 1) 0 rfl rfl ?_
  refine z_is1 rfl rfl (pc' := 2) 1 rfl rfl ?_
  refine z_iconst (v := nI 0) (by decide) (pc' := 3) 2 rfl rfl ?_
  refine z_is2 rfl rfl (pc' := 4) 3 rfl rfl ?_
  exact l_Ta_split h47 h48 hb hln ln 0 0 tk pl (by omega) rfl (Nat.le_refl _) (Nat.zero_le _) (fun j hj => by omega) (fun _ _ => rfl)
set_option maxHeartbeats 4000000 in
set_option maxRecDepth 100000 in
theorem c_Bk_clear {G : zG} {n u : Nat} {ν : Nat → va_E} {ln j z : Nat} {c : Int32} {kd de bg : Nat → Int32} {c4 : Nat → Nat} : zMet G 0 M_Bk_clear [.ref 51] n u (MT ν ln c kd de bg j z c4) n u (zE none (MT ν ln (nI 0) kd de bg j 0 c4)) := by
  refine z_start (lv := [.ref 51]) K_Bk_clear rfl rfl (Nat.le_refl _) (Nat.le_refl _) (Nat.le_of_ble_eq_true rfl) rfl ?_
  refine z_al0 (pc' := 1) 0 rfl rfl ?_
  refine z_iconst (v := nI 0) (by decide) (pc' := 2) 1 rfl rfl ?_
  refine z_putf (pc' := 5) 2 rfl rfl f_Bk_26_0 (by exact MT_51) rfl rfl (by rfl) (by rfl) ?_
  dsimp only [List.set]
  rw [MT_s51]
  refine z_al0 (pc' := 6) 3 rfl rfl ?_
  refine z_iconst (v := nI 0) (by decide) (pc' := 7) 4 rfl rfl ?_
  refine z_putf (pc' := 10) 5 rfl rfl f_Bk_30_0 (by exact MT_51) rfl rfl (by rfl) (by rfl) ?_
  dsimp only [List.set]
  rw [MT_s51]
  exact z_return 6 rfl rfl rfl rfl (by exact ⟨rfl, rfl⟩)
theorem rlR_le {tc : Nat → Nat} {N F : Nat} (h : iTk tc N) : ∀ k j L R, j ≤ N → rlR tc F k j L = some R → R.1 ≤ N
  | 0, j, L, R, hj, hp => by cases hp; exact hj
  | k + 1, j, L, R, hj, hp => by
    unfold rlR at hp
    split at hp
    · cases hp; exact hj
    · obtain ⟨r, h1, h2⟩ := Option.bind_eq_some_iff.mp hp
      have hr := ruR_le h hj h1
      split at h2
      · exact rlR_le h k _ _ R hr h2
      · cases h2; exact hr
/-- behind readInto -/
def rnP (μ : Nat → va_E) (b : Nat → Nat) (ln : Nat) (tk : Nat → Nat) : zP := fun r μ' => ∃ (c z j : Nat) (kd de bg c4 pl : Nat → Nat), r = some (.int (ruA (tcF b ln tk) (tpF b ln) (ruL (tcF b ln tk)))) ∧ μ' = MT (MS μ (tcF b ln tk) pl) 0 (nI c) (fun i => nI (kd i)) (fun i => nI (de i)) (fun i => nI (bg i)) j z c4 ∧ z ≤ 200 ∧ c ≤ 8 ∧ j ≤ 200 ∧ ((ruL (tcF b ln tk)).2.1 = true → bkL c z kd de bg c4 (ruL (tcF b ln tk)).2.2) ∧ bg 0 = 0
set_option maxHeartbeats 4000000 in
set_option maxRecDepth 100000 in
theorem c_Ta_readInto {G : zG} {n u : Nat} {μ : Nat → va_E} {b : Nat → Nat} {ln at9 : Nat} (h47 : μ 47 = .inr (9, [.int (nI ln), .ref 48, .ref 49, .ref 50, .int (nI at9)])) (h48 : μ 48 = .inl (0, 200, .inl (fun i => nI (b i)))) (hb : ∀ i, b i ≤ 255) (hln : ln ≤ 200) {tk pl : Nat → Nat} (h49 : μ 49 = .inl (0, 201, .inl (fun j => nI (tk j)))) (h50 : μ 50 = .inl (0, 201, .inl (fun j => nI (pl j)))) (htk : ∀ j, vc (tk j)) {c z : Nat} {kd de bg c4 : Nat → Nat} (hd : isBI μ 51 (nI c) (nI z) (fun i => nI (kd i)) (fun i => nI (de i)) (fun i => nI (bg i)) (fun i => nI (c4 i))) (hbg : bg 0 = 0) : zMet G 12 M_Ta_readInto [.ref 47, .ref 51] n u μ n u (rnP μ b ln tk) := by
  have hT : iTk (tcF b ln tk) (NF b ln) := tcF_T hln htk
  obtain ⟨F, hF⟩ := ruL_s hT
  have hle := rlR_le hT 8 0 [] _ (Nat.zero_le _) hF
  refine z_start (lv := [.ref 47, .ref 51, .retAddr 0, .retAddr 0]) K_Ta_readInto rfl rfl (Nat.le_refl _) (Nat.le_refl _) (Nat.le_of_ble_eq_true rfl) rfl ?_
  refine z_mu (MS_id h49 h50).symm ?_
  refine z_al0 (pc' := 1) 0 rfl rfl ?_
  refine z_callV (pc' := 4) 1 rfl rfl k_Ta_25 (by first | exact MT_47 | exact MT_51 | exact MT_52 | exact MT_53 | exact MT_54 | exact MT_55 | (rw [MT_o (by decide)]; assumption) | exact MS_49 | exact MS_50 | (rw [MS_o (by decide)]; assumption)) (c_Ta_split h47 h48 hb hln) (by decide) (Nat.le_refl _) (Nat.le_refl _) rfl rfl (Nat.le_of_ble_eq_true rfl) (fun r1 μ1 h1 => ?_)
  obtain ⟨y0, pl9, y1, y2⟩ := h1
  subst y0; subst y1
  dsimp only [Option.toList_none, List.nil_append]
  refine z_mu (show _ = (MT (MS μ (tcF b ln tk) pl9) ln (nI c) (fun i => nI (kd i)) (fun i => nI (de i)) (fun i => nI (bg i)) at9 z c4) by unfold MT; rw [zu_id (show MS μ (tcF b ln tk) pl9 47 = obTa ln at9 by rw [MS_o (by decide)]; exact h47), pbk_id (by rw [MS_o (by decide)]; exact hd.1) (by rw [MS_o (by decide)]; exact hd.2.1) (by rw [MS_o (by decide)]; exact hd.2.2.1) (by rw [MS_o (by decide)]; exact hd.2.2.2.1) (by rw [MS_o (by decide)]; exact hd.2.2.2.2)]) ?_
  refine z_al0 (pc' := 5) 2 rfl rfl ?_
  refine z_iconst (v := nI 0) (by decide) (pc' := 6) 3 rfl rfl ?_
  refine z_putf (pc' := 9) 4 rfl rfl f_Ta_21_9 (by first | exact MT_47 | exact MT_51 | exact MT_52 | exact MT_53 | exact MT_54 | exact MT_55 | (rw [MT_o (by decide)]; assumption) | exact MS_49 | exact MS_50 | (rw [MS_o (by decide)]; assumption)) rfl rfl (by rfl) (by rfl) ?_
  dsimp only [List.set]
  rw [MT_g47]
  refine z_al0 (pc' := 10) 5 rfl rfl ?_
  refine z_iconst (v := nI 0) (by decide) (pc' := 11) 6 rfl rfl ?_
  refine z_putf (pc' := 14) 7 rfl rfl f_Ta_28_9 (by first | exact MT_47 | exact MT_51 | exact MT_52 | exact MT_53 | exact MT_54 | exact MT_55 | (rw [MT_o (by decide)]; assumption) | exact MS_49 | exact MS_50 | (rw [MS_o (by decide)]; assumption)) rfl rfl (by rfl) (by rfl) ?_
  dsimp only [List.set]
  rw [MT_g47]
  refine z_al1 (pc' := 15) 8 rfl rfl ?_
  refine z_callV0 (pc' := 18) 9 rfl rfl k_Ta_31 (by first | exact MT_47 | exact MT_51 | exact MT_52 | exact MT_53 | exact MT_54 | exact MT_55 | (rw [MT_o (by decide)]; assumption) | exact MS_49 | exact MS_50 | (rw [MS_o (by decide)]; assumption)) (c_Bk_clear) (by decide) (Nat.le_refl _) (Nat.le_refl _) rfl rfl (Nat.le_of_ble_eq_true rfl) ?_
  refine z_iconst (v := nI 1) (by decide) (pc' := 19) 10 rfl rfl ?_
  refine z_is2 rfl rfl (pc' := 20) 11 rfl rfl ?_
  refine z_iconst (v := nI 0) (by decide) (pc' := 21) 12 rfl rfl ?_
  refine z_is3 rfl rfl (pc' := 22) 13 rfl rfl ?_
  refine zW_im (l_Ta_readInto (tc := tcF b ln tk) (tp := pl9) (R := ruL (tcF b ln tk)) (F := F) hT MS_49 MS_50 8 0 0 0 0 kd de bg c4 [] rfl (Nat.le_refl _) (Nat.zero_le _) (Nat.le_refl _) ⟨rfl, hbg, hbg, fun r a b ic im hx => by cases hx⟩ hF) (fun r μ9 hq => ?_)
  obtain ⟨c1, z1, j1, kd1, de1, bg1, c41, q1, q2, q3, q4, q5, q6, q7⟩ := hq
  refine ⟨c1, z1, j1, kd1, de1, bg1, c41, pl9, ?_, q2, q3, q4, q5, q6, q7⟩
  rw [q1]
  unfold ruA
  rw [y2 _ hle]
def bL (c z : Nat) (kd de bg c4 : Nat → Nat) : Nat → Nat → Nat := fun i j => if i = 0 then (if j = 0 then c else z) else if i = 1 then kd j else if i = 2 then de j else if i = 3 then bg j else c4 j
theorem neg100 : ∀ p, p ≤ 200 → (-100 - nI p : Int32) < 0 := by decide +kernel
theorem tpF_200 {b : Nat → Nat} {ln j : Nat} (hl : ln ≤ 200) (h : j ≤ NF b ln) : tpF b ln j ≤ 200 := by
  by_cases e : j = NF b ln
  · rw [e, (NF_s b ln).2.1]; exact hl
  · have := (NF_s b ln).2.2 j (by omega); omega
/-- the class's tape and draft: length, bytes, tokens -/
def isTa (μ : Nat → va_E) (b : Nat → Nat) (ln : Nat) (tk : Nat → Nat) : Prop := (∀ i, b i ≤ 255) ∧ ln ≤ 200 ∧ (∀ j, vc (tk j)) ∧ μ 48 = .inl (0, 200, .inl (fun i => nI (b i))) ∧ μ 49 = .inl (0, 201, .inl (fun j => nI (tk j))) ∧ (∃ pl : Nat → Nat, μ 50 = .inl (0, 201, .inl (fun j => nI (pl j)))) ∧ (∃ a : Nat, μ 47 = .inr (9, [.int (nI ln), .ref 48, .ref 49, .ref 50, .int (nI a)])) ∧ ∃ (c z : Nat) (kd de bg c4 : Nat → Nat), isBI μ 51 (nI c) (nI z) (fun i => nI (kd i)) (fun i => nI (de i)) (fun i => nI (bg i)) (fun i => nI (c4 i)) ∧ bg 0 = 0
def cRu (μ : Nat → va_E) (b tk : Nat → Nat) (p : Int32 × zκ) : zP := fun r μ' => r = some (.int p.1) ∧ cst μ' p.2 ∧ isTa μ' b 0 tk ∧ ∀ i, (i < 5 ∨ (23 < i ∧ i < 47) ∨ 55 < i) → μ' i = μ i
theorem isTa_fr {μ μ' : Nat → va_E} {b tk : Nat → Nat} {ln : Nat} (h : isTa μ b ln tk) (hf : ∀ i, 47 ≤ i → i ≤ 55 → μ' i = μ i) : isTa μ' b ln tk := by
  obtain ⟨h1, h2, h3, h4, h5, ⟨pl, h6⟩, ⟨a, h7⟩, c, z, kd, de, bg, c4, h8, h9⟩ := h
  exact ⟨h1, h2, h3, by rw [hf _ (by decide) (by decide)]; exact h4, by rw [hf _ (by decide) (by decide)]; exact h5, ⟨pl, by rw [hf _ (by decide) (by decide)]; exact h6⟩, ⟨a, by rw [hf _ (by decide) (by decide)]; exact h7⟩, c, z, kd, de, bg, c4, isBI_fr h8 (fun i a1 a2 => hf i (by omega) (by omega)), h9⟩
set_option maxHeartbeats 4000000 in
set_option maxRecDepth 100000 in
theorem c_Wb_rules {G : zG} {n u : Nat} {μ : Nat → va_E} {κ : zκ} {kp : Int32} {ac : Value} (h : cst μ κ) (hob : isOb μ kp ac) {b tk : Nat → Nat} {ln : Nat} (hta : isTa μ b ln tk) : zMet G 13 M_Wb_rules [.ref 4] n u μ n u (cRu μ b (tcF b ln tk) (f_rules κ b ln tk)) := by
  obtain ⟨hb, hln, htk, h48, h49, ⟨pl, h50⟩, ⟨at9, h47⟩, c, z, kd, de, bg, c4, hd, hbg⟩ := hta
  have hT : iTk (tcF b ln tk) (NF b ln) := tcF_T hln htk
  obtain ⟨F, hF⟩ := ruL_s hT
  have hle := rlR_le hT 8 0 [] _ (Nat.zero_le _) hF
  have hlen := rlR_n 8 0 [] _ hF
  have e0 : ([] : zRu).length = 0 := rfl
  obtain ⟨S, mo, pr, fa, sc, ch, rc, D⟩ := κ
  have hst := h
  obtain ⟨h1, ⟨cs, q, h2⟩, ⟨β, its, h3, h3a, h3b⟩, ⟨c23, h4⟩, h5⟩ := h
  have hk5 := h5
  obtain ⟨hi, hx, hmo, hrc⟩ := h5
  have hi0 := hi.1
  have hi1 := hi.2.1
  have hi2 := hi.2.2.1
  have hi3 := hi.2.2.2.2.1
  refine z_start (lv := [.ref 4, .retAddr 0]) K_Wb_rules rfl rfl (Nat.le_refl _) (Nat.le_refl _) (Nat.le_of_ble_eq_true rfl) rfl ?_
  unfold isOb at hob
  have h1c := h1
  obtain ⟨m5, -⟩ := h1c
  refine z_al0 (pc' := 1) 0 rfl rfl ?_
  refine z_getf (pc' := 4) 1 rfl rfl f_Wb_29_11 (by first | exact MT_47 | exact MT_51 | (rw [MT_o (by decide), MS_o (by decide)]; assumption) | assumption) (by rfl) ?_
  refine z_al0 (pc' := 5) 2 rfl rfl ?_
  refine z_getf (pc' := 8) 3 rfl rfl f_Wb_36_11 (by first | exact MT_47 | exact MT_51 | (rw [MT_o (by decide), MS_o (by decide)]; assumption) | assumption) (by rfl) ?_
  refine z_callV (pc' := 11) 4 rfl rfl k_Wb_166 (by first | exact MT_47 | exact MT_51 | (rw [MT_o (by decide), MS_o (by decide)]; assumption) | assumption) (c_Ta_readInto h47 h48 hb hln h49 h50 htk hd hbg) (by decide) (Nat.le_refl _) (Nat.le_refl _) rfl rfl (Nat.le_of_ble_eq_true rfl) (fun r8 μ8 h8 => ?_)
  obtain ⟨c9, z9, j9, kd9, de9, bg9, c49, pl9, y0, y1, y4, y5, y6, y7, y8⟩ := h8
  subst y0; subst y1
  dsimp only [Option.toList_some, List.cons_append, List.nil_append]
  have hnb : isBI (MT (MS μ (tcF b ln tk) pl9) 0 (nI c9) (fun i => nI (kd9 i)) (fun i => nI (de9 i)) (fun i => nI (bg9 i)) j9 z9 c49) 51 (nI c9) (nI z9) (fun i => nI (kd9 i)) (fun i => nI (de9 i)) (fun i => nI (bg9 i)) (fun i => nI (c49 i)) := ⟨MT_51, MT_52, MT_53, MT_54, MT_55⟩
  have hTa : isTa (MT (MS μ (tcF b ln tk) pl9) 0 (nI c9) (fun i => nI (kd9 i)) (fun i => nI (de9 i)) (fun i => nI (bg9 i)) j9 z9 c49) b 0 (tcF b ln tk) := ⟨hb, Nat.zero_le _, fun j => hT.2.2 j, by rw [MT_o (by decide), MS_o (by decide)]; exact h48, by rw [MT_o (by decide)]; exact MS_49, ⟨pl9, by rw [MT_o (by decide)]; exact MS_50⟩, ⟨j9, MT_47⟩, c9, z9, kd9, de9, bg9, c49, hnb, y8⟩
  refine z_is1 rfl rfl (pc' := 12) 5 rfl rfl ?_
  refine z_il1 (pc' := 13) 6 rfl rfl ?_
  first | refine z_if_lt (pc' := 16) 7 rfl rfl (tgt := 30) rfl (fun h13 => ?_) (fun h13 => ?_)
  · have hbad : ¬ ((ruL (tcF b ln tk)).2.1 = true ∧ tcF b ln tk (ruL (tcF b ln tk)).1 = 25) := fun z => by
      rw [ruA, if_pos z] at h13
      have := (nI_ltI (a := (ruL (tcF b ln tk)).2.2.length) (b := 0) (by omega) (by decide)).mp h13
      omega
    refine z_il1 (pc' := 31) 14 rfl rfl ?_
    exact z_ireturn 15 rfl rfl (by first | rfl | exact zbo_nar) rfl rfl (by rw [f_rules, if_neg hbad]; exact ⟨rfl, cst_fr hst (fun i a1 a2 => by rw [MT_o (by omega), MS_o (by omega)]), hTa, fun i hi => by rw [MT_o (by omega), MS_o (by omega)]⟩)
  · have hgood : (ruL (tcF b ln tk)).2.1 = true ∧ tcF b ln tk (ruL (tcF b ln tk)).1 = 25 := Classical.byContradiction (fun z => h13 (by rw [ruA, if_neg z]; exact neg100 _ (tpF_200 hln hle)))
    have hk9 := y7 hgood.1
    have hdz := dzB_L hk9 (ruL_g hT) y4 y5
    have h17 := h3.1
    refine z_al0 (pc' := 17) 8 rfl rfl ?_
    refine z_getf (pc' := 20) 9 rfl rfl f_Wb_10_11 (by first | exact MT_47 | exact MT_51 | (rw [MT_o (by decide), MS_o (by decide)]; assumption) | assumption) (by rfl) ?_
    refine z_getr (pc' := 23) 10 rfl rfl f_Wb_170_3 (by first | exact MT_47 | exact MT_51 | (rw [MT_o (by decide), MS_o (by decide)]; assumption) | assumption) (by rfl) ?_
    refine z_al0 (pc' := 24) 11 rfl rfl ?_
    refine z_getf (pc' := 27) 12 rfl rfl f_Wb_36_11 (by first | exact MT_47 | exact MT_51 | (rw [MT_o (by decide), MS_o (by decide)]; assumption) | assumption) (by rfl) ?_
    refine z_callV0 (pc' := 30) 13 rfl rfl k_Wb_173 (by first | exact MT_47 | exact MT_51 | (rw [MT_o (by decide), MS_o (by decide)]; assumption) | assumption) (c_Bk_copyFrom (isBI_fr h3 (fun i a1 a2 => by rw [MT_o (by omega), MS_o (by omega)])) hnb y4 (by decide)) (by decide) (Nat.le_refl _) (Nat.le_refl _) rfl rfl (Nat.le_of_ble_eq_true rfl) ?_
    skip
    refine z_il1 (pc' := 31) 14 rfl rfl ?_
    exact z_ireturn 15 rfl rfl (by first | rfl | exact zbo_nar) rfl rfl (by rw [f_rules, if_pos hgood]; exact ⟨rfl, ⟨isCo_fr h1 (fun i hi => by rw [pbk_o (by omega), MT_o (by omega), MS_o (by omega)]), ⟨cs, q, isCr_fr h2 (fun i a1 a2 => by rw [pbk_o (by omega), MT_o (by omega), MS_o (by omega)])⟩, ⟨_, _, isBk_cp (β := bL c9 z9 kd9 de9 bg9 c49) (β0 := β), dzB_ext hdz rfl rfl rfl rfl (fun j hj => if_pos hj), hk9.1.symm⟩, ⟨c23, by rw [pbk_o (by decide), MT_o (by decide), MS_o (by decide)]; exact h4⟩, ⟨hi, hx, hmo, by rw [hk9.1]; exact y5⟩⟩, isTa_fr hTa (fun i a1 a2 => pbk_o (by omega)), fun i hi => by rw [pbk_o (by omega), MT_o (by omega), MS_o (by omega)]⟩)
