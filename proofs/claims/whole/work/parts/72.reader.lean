/-! ===== the class reads tokens ===== -/
def obTa (ln j : Nat) : va_E := .inr (9, [.int (nI ln), .ref 48, .ref 49, .ref 50, .int (nI j)])
def MT (ν : Nat → va_E) (ln : Nat) (c : Int32) (kd de bg : Nat → Int32) (j z : Nat) (c4 : Nat → Nat) : Nat → va_E := pbk (zu ν 47 (obTa ln j)) 51 c (nI z) kd de bg (fun i => nI (c4 i))
section MTs
variable {ν : Nat → va_E} {ln : Nat} {c : Int32} {kd de bg : Nat → Int32} {j z : Nat} {c4 : Nat → Nat}
theorem MT_47 : MT ν ln c kd de bg j z c4 47 = .inr (9, [.int (nI ln), .ref 48, .ref 49, .ref 50, .int (nI j)]) := by
  unfold MT
  rw [pbk_o (by omega), zu_s]
  rfl
theorem MT_51 : MT ν ln c kd de bg j z c4 51 = .inr (0, [.int c, .ref 52, .ref 53, .ref 54, .ref 55, .int (nI z)]) := pbk_0
theorem MT_52 : MT ν ln c kd de bg j z c4 52 = .inl (0, 8, .inl kd) := pbk_1
theorem MT_53 : MT ν ln c kd de bg j z c4 53 = .inl (0, 8, .inl de) := pbk_2
theorem MT_54 : MT ν ln c kd de bg j z c4 54 = .inl (0, 9, .inl bg) := pbk_3
theorem MT_55 : MT ν ln c kd de bg j z c4 55 = .inl (0, 200, .inl (fun i => nI (c4 i))) := pbk_4
theorem MT_o {i : Nat} (h : i < 47 ∨ (47 < i ∧ i < 51) ∨ 55 < i) : MT ν ln c kd de bg j z c4 i = ν i := by
  unfold MT
  rw [pbk_o (by omega), zu_n (by omega)]
theorem MT_s47 {j' : Nat} : zu (MT ν ln c kd de bg j z c4) 47 (.inr (9, [.int (nI ln), .ref 48, .ref 49, .ref 50, .int (nI j')])) = MT ν ln c kd de bg j' z c4 := by
  unfold MT
  rw [pbk_out (by omega), zu_zu]
  rfl
theorem MT_s51 {c' : Int32} {z' : Nat} : zu (MT ν ln c kd de bg j z c4) 51 (.inr (0, [.int c', .ref 52, .ref 53, .ref 54, .ref 55, .int (nI z')])) = MT ν ln c' kd de bg j z' c4 := by
  unfold MT
  exact pbk_z0
theorem MT_s55 {k x : Nat} : zu (MT ν ln c kd de bg j z c4) 55 (.inl (0, 200, .inl (upd (fun i => nI (c4 i)) k (nI x)))) = MT ν ln c kd de bg j z (un c4 k x) := by
  have e : upd (fun i => nI (c4 i)) k (nI x) = fun i => nI (un c4 k x i) := by
    funext i
    by_cases h : i = k
    · subst h; rw [upd_at, un_s]
    · rw [upd_no h, un_n h]
  unfold MT
  rw [e]
  exact pbk_z4
end MTs
set_option maxHeartbeats 4000000 in
set_option maxRecDepth 100000 in
theorem c_Ta_reads {G : zG} {n u : Nat} {ν : Nat → va_E} {ln : Nat} {c : Int32} {kd de bg : Nat → Int32} {tc : Nat → Nat} {N : Nat} (hT : iTk tc N) (h49 : ν 49 = .inl (0, 201, .inl (fun j => nI (tc j)))) {j z k : Nat} {c4 : Nat → Nat} (hj : j ≤ N) (hk : k < 2 ^ 31) : zMet G 0 M_Ta_reads [.ref 47, .int (nI k)] n u (MT ν ln c kd de bg j z c4) n u (zE (some (.int (zbo (tc j = k)))) (MT ν ln c kd de bg (if tc j = k then j + 1 else j) z c4)) := by
  have htb := (hT.2.2 j).1
  have hN := hT.1
  refine z_start (lv := [.ref 47, .int (nI k), .retAddr 0]) K_Ta_reads rfl rfl (Nat.le_refl _) (Nat.le_refl _) (Nat.le_of_ble_eq_true rfl) rfl ?_
  refine z_al0 (pc' := 1) 0 rfl rfl ?_
  refine z_getf (pc' := 4) 1 rfl rfl f_Ta_15_9 (by first | exact MT_47 | exact MT_51 | exact MT_55 | (rw [MT_o (by decide)]; assumption)) (by rfl) ?_
  refine z_al0 (pc' := 5) 2 rfl rfl ?_
  refine z_getf (pc' := 8) 3 rfl rfl f_Ta_28_9 (by first | exact MT_47 | exact MT_51 | exact MT_55 | (rw [MT_o (by decide)]; assumption)) (by rfl) ?_
  refine z_iald (pc' := 9) 4 rfl rfl (by first | exact MT_47 | exact MT_51 | exact MT_55 | (rw [MT_o (by decide)]; assumption)) (by omega) (by decide) ?_
  refine z_il1 (pc' := 10) 5 rfl rfl ?_
  first | refine z_icmp_neN (pc' := 13) 6 rfl rfl (tgt := 17) rfl (by omega) (by omega) (fun h10 => ?_) (fun h10 => ?_) | refine z_icmp_ne (pc' := 13) 6 rfl rfl (tgt := 17) rfl (fun h10 => ?_) (fun h10 => ?_)
  · refine z_iconst (v := nI 0) (by decide) (pc' := 18) 9 rfl rfl ?_
    refine z_is2 rfl rfl (pc' := 19) 10 rfl rfl ?_
    refine z_al0 (pc' := 20) 11 rfl rfl ?_
    refine z_dup rfl (pc' := 21) 12 rfl rfl ?_
    refine z_getf (pc' := 24) 13 rfl rfl f_Ta_28_9 (by first | exact MT_47 | exact MT_51 | exact MT_55 | (rw [MT_o (by decide)]; assumption)) (by rfl) ?_
    refine z_il2 (pc' := 25) 14 rfl rfl ?_
    refine z_if_eq_t 15 rfl (tgt := 32) rfl rfl ?_
    refine z_iconst (v := nI 0) (by decide) (pc' := 33) 18 rfl rfl ?_
    first | refine z_iaddN (pc' := 34) 19 rfl rfl ?_ | refine z_iadd (pc' := 34) 19 rfl rfl ?_
    refine z_putf (pc' := 37) 20 rfl rfl f_Ta_28_9 (by first | exact MT_47 | exact MT_51 | exact MT_55 | (rw [MT_o (by decide)]; assumption)) rfl rfl (by rfl) (by rfl) ?_
    dsimp only [List.set]
    rw [MT_s47]
    refine z_il2 (pc' := 38) 21 rfl rfl ?_
    exact z_ireturn 22 rfl rfl (by first | rfl | exact zbo_nar) rfl rfl (by exact ⟨by rw [zbo_f h10], by rw [if_neg h10, Nat.add_zero]⟩)
  · refine z_iconst (v := nI 1) (by decide) (pc' := 14) 7 rfl rfl ?_
    refine z_goto 8 rfl (tgt := 18) rfl ?_
    refine z_is2 rfl rfl (pc' := 19) 10 rfl rfl ?_
    refine z_al0 (pc' := 20) 11 rfl rfl ?_
    refine z_dup rfl (pc' := 21) 12 rfl rfl ?_
    refine z_getf (pc' := 24) 13 rfl rfl f_Ta_28_9 (by first | exact MT_47 | exact MT_51 | exact MT_55 | (rw [MT_o (by decide)]; assumption)) (by rfl) ?_
    refine z_il2 (pc' := 25) 14 rfl rfl ?_
    refine z_if_eq_f (pc' := 28) 15 rfl rfl (tgt := 32) rfl (by decide) ?_
    refine z_iconst (v := nI 1) (by decide) (pc' := 29) 16 rfl rfl ?_
    refine z_goto 17 rfl (tgt := 33) rfl ?_
    first | refine z_iaddN (pc' := 34) 19 rfl rfl ?_ | refine z_iadd (pc' := 34) 19 rfl rfl ?_
    refine z_putf (pc' := 37) 20 rfl rfl f_Ta_28_9 (by first | exact MT_47 | exact MT_51 | exact MT_55 | (rw [MT_o (by decide)]; assumption)) rfl rfl (by rfl) (by rfl) ?_
    dsimp only [List.set]
    rw [MT_s47]
    refine z_il2 (pc' := 38) 21 rfl rfl ?_
    exact z_ireturn 22 rfl rfl (by first | rfl | exact zbo_nar) rfl rfl (by exact ⟨by rw [zbo_t h10], by rw [if_pos h10]⟩)
set_option maxHeartbeats 4000000 in
set_option maxRecDepth 100000 in
theorem c_Bk_writes {G : zG} {n u : Nat} {ν : Nat → va_E} {ln : Nat} {c : Int32} {kd de bg : Nat → Int32} {j z x : Nat} {c4 : Nat → Nat} (hz : z < 200) : zMet G 0 M_Bk_writes [.ref 51, .int (nI x)] n u (MT ν ln c kd de bg j z c4) n u (zE none (MT ν ln c kd de bg j (z + 1) (un c4 z x))) := by
  refine z_start (lv := [.ref 51, .int (nI x)]) K_Bk_writes rfl rfl (Nat.le_refl _) (Nat.le_refl _) (Nat.le_of_ble_eq_true rfl) rfl ?_
  refine z_al0 (pc' := 1) 0 rfl rfl ?_
  refine z_getf (pc' := 4) 1 rfl rfl f_Bk_30_0 (by first | exact MT_51 | exact MT_55) (by rfl) ?_
  refine z_al0 (pc' := 5) 2 rfl rfl ?_
  refine z_getf (pc' := 8) 3 rfl rfl f_Bk_23_0 (by first | exact MT_51 | exact MT_55) (by rfl) ?_
  refine z_alen (pc' := 9) (kd := 0) 4 rfl rfl (by first | exact MT_51 | exact MT_55) ?_
  first | refine z_icmp_geN (pc' := 12) 5 rfl rfl (tgt := 32) rfl (by omega) (by omega) (fun h9 => ?_) (fun h9 => ?_) | refine z_icmp_ge (pc' := 12) 5 rfl rfl (tgt := 32) rfl (fun h9 => ?_) (fun h9 => ?_)
  · exfalso; omega
  · refine z_al0 (pc' := 13) 6 rfl rfl ?_
    refine z_getf (pc' := 16) 7 rfl rfl f_Bk_23_0 (by first | exact MT_51 | exact MT_55) (by rfl) ?_
    refine z_al0 (pc' := 17) 8 rfl rfl ?_
    refine z_getf (pc' := 20) 9 rfl rfl f_Bk_30_0 (by first | exact MT_51 | exact MT_55) (by rfl) ?_
    refine z_il1 (pc' := 21) 10 rfl rfl ?_
    refine z_iast (pc' := 22) 11 rfl rfl (by first | exact MT_51 | exact MT_55) (by omega) (by decide) ?_
    rw [MT_s55]
    refine z_al0 (pc' := 23) 12 rfl rfl ?_
    refine z_dup rfl (pc' := 24) 13 rfl rfl ?_
    refine z_getf (pc' := 27) 14 rfl rfl f_Bk_30_0 (by first | exact MT_51 | exact MT_55) (by rfl) ?_
    refine z_iconst (v := nI 1) (by decide) (pc' := 28) 15 rfl rfl ?_
    first | refine z_iaddN (pc' := 29) 16 rfl rfl ?_ | refine z_iadd (pc' := 29) 16 rfl rfl ?_
    refine z_putf (pc' := 32) 17 rfl rfl f_Bk_30_0 (by first | exact MT_51 | exact MT_55) rfl rfl (by rfl) (by rfl) ?_
    dsimp only [List.set]
    rw [MT_s51]
    exact z_return 18 rfl rfl rfl rfl (by exact ⟨rfl, rfl⟩)
set_option maxHeartbeats 4000000 in
set_option maxRecDepth 100000 in
theorem c_Ta_isValue {G : zG} {n u : Nat} {μ : Nat → va_E} {x : Nat} (hx : x ≤ 10099) : zMet G 1 M_Ta_isValue [.int (nI x)] n u μ n u (zE (some (.int (zbo (opB x = true)))) μ) := by
  refine z_start (lv := [.int (nI x)]) K_Ta_isValue rfl rfl (Nat.le_refl _) (Nat.le_refl _) (Nat.le_of_ble_eq_true rfl) rfl ?_
  refine z_il0 (pc' := 1) 0 rfl rfl ?_
  refine z_bipush (v := nI 100) (by decide) (pc' := 3) 1 rfl rfl ?_
  first | refine z_icmp_geN (pc' := 6) 2 rfl rfl (tgt := 17) rfl (by omega) (by omega) (fun h3 => ?_) (fun h3 => ?_) | refine z_icmp_ge (pc' := 6) 2 rfl rfl (tgt := 17) rfl (fun h3 => ?_) (fun h3 => ?_)
  · refine z_iconst (v := nI 1) (by decide) (pc' := 18) 8 rfl rfl ?_
    refine z_goto 9 rfl (tgt := 22) rfl ?_
    exact z_ireturn 11 rfl rfl (by first | rfl | exact zbo_nar) rfl rfl (by exact ⟨by rw [zbo_t (opB_t.mpr (Or.inr ⟨h3, hx⟩))], rfl⟩)
  · refine z_il0 (pc' := 7) 3 rfl rfl ?_
    refine z_bipush (v := nI 13) (by decide) (pc' := 9) 4 rfl rfl ?_
    refine z_bipush (v := nI 17) (by decide) (pc' := 11) 5 rfl rfl ?_
    refine z_callS1 (pc' := 14) 6 rfl rfl k_Ta_76 (c_Wb_within _ _ _) (by decide) (Nat.le_refl _) (Nat.le_refl _) rfl rfl (Nat.le_of_ble_eq_true rfl) ?_
    first | refine z_if_eqB (pc' := 17) 7 rfl rfl (tgt := 21) rfl (fun h14 => ?_) (fun h14 => ?_) | refine z_if_eqN (pc' := 17) 7 rfl rfl (tgt := 21) rfl (by omega) (fun h14 => ?_) (fun h14 => ?_) | refine z_if_eq (pc' := 17) 7 rfl rfl (tgt := 21) rfl (fun h14 => ?_) (fun h14 => ?_)
    · refine z_iconst (v := nI 0) (by decide) (pc' := 22) 10 rfl rfl ?_
      exact z_ireturn 11 rfl rfl (by first | rfl | exact zbo_nar) rfl rfl (by exact ⟨by rw [zbo_f (fun z => h14 (by rcases opB_t.mp z with q | q; exact ⟨nI_le q.1 (by omega), nI_le q.2 (by decide)⟩; omega))], rfl⟩)
    · refine z_iconst (v := nI 1) (by decide) (pc' := 18) 8 rfl rfl ?_
      refine z_goto 9 rfl (tgt := 22) rfl ?_
      exact z_ireturn 11 rfl rfl (by first | rfl | exact zbo_nar) rfl rfl (by exact ⟨by rw [zbo_t (opB_t.mpr (Or.inl ⟨(nI_leI (by decide) (by omega)).mp h14.1, (nI_leI (by omega) (by decide)).mp h14.2⟩))], rfl⟩)
/-- what a reading leaves -/
def rdP (ν : Nat → va_E) (ln : Nat) (c : Int32) (kd de bg : Nat → Int32) (z : Nat) (c4 : Nat → Nat) (R : zR9) : zP := fun r μ' => ∃ (z' : Nat) (c4' : Nat → Nat), r = some (.int (zbo (R.2.1 = true))) ∧ μ' = MT ν ln c kd de bg R.1 z' c4' ∧ z' ≤ 200 ∧ (R.2.1 = true → z' = z + wl R.2.2.1 ∧ (∀ i, i < z → c4' i = c4 i) ∧ sg c4' z R.2.2.1 z')
theorem rd_fl {ν : Nat → va_E} {ln : Nat} {c : Int32} {kd de bg : Nat → Int32} {z z' i : Nat} {c4 c4' : Nat → Nat} (hz : z' ≤ 200) : rdP ν ln c kd de bg z c4 (fl9 i) (some (.int (nI 0))) (MT ν ln c kd de bg i z' c4') := ⟨z', c4', rfl, rfl, hz, fun h => absurd h nf9⟩
theorem sgB_w {x : Nat} (hx : x < 2 ^ 31) : (nI 21 ≤ nI x ∧ nI x ≤ nI 23) ↔ sgB x = true := by rw [sgB_t, nI_leI (by decide) hx, nI_leI hx (by decide)]
theorem rd_cmp {ν : Nat → va_E} {ln : Nat} {c : Int32} {kd de bg : Nat → Int32} {z j : Nat} {c4 tc : Nat → Nat} (h1 : opB (tc j) = true) (h2 : sgB (tc (j + 1)) = true) (h3 : opB (tc (j + 2)) = true) (hz : z + 3 ≤ 200) : rdP ν ln c kd de bg z c4 (cmpR tc j 0) (some (.int (nI 1))) (MT ν ln c kd de bg (j + 1 + 1 + 1) (z + 1 + 1 + 1) (un (un (un c4 z (tc (j + 1))) (z + 1) (tc j)) (z + 1 + 1) (tc (j + 1 + 1)))) := by
  have e : cmpR tc j 0 = (j + 3, true, [(tc (j + 1), tc j, tc (j + 2))], [(tc (j + 1), tc j, tc (j + 2))]) := by
    rw [cmpR, if_pos h1, if_pos h2, if_pos h3]
    rfl
  have h21 := (sgB_t.mp h2).1
  rw [e]
  refine ⟨z + 3, _, rfl, rfl, hz, fun _ => ⟨?_, fun i hi => ?_, ?_⟩⟩
  · show z + 3 = z + ((if tc (j + 1) < 21 then 1 else 3) + 0)
    rw [if_neg (by omega)]
  · rw [un_n (by omega), un_n (by omega), un_n (by omega)]
  · refine ⟨by rw [un_n (by omega), un_n (by omega), un_s], ?_⟩
    rw [if_neg (by omega)]
    exact ⟨by rw [un_n (by omega), un_s], by rw [show z + 2 = z + 1 + 1 from rfl, un_s], rfl⟩
set_option maxHeartbeats 4000000 in
set_option maxRecDepth 100000 in
theorem c_Ta_readComparison {G : zG} {n u : Nat} {ν : Nat → va_E} {ln : Nat} {c : Int32} {kd de bg : Nat → Int32} {tc : Nat → Nat} {N : Nat} (hT : iTk tc N) (h49 : ν 49 = .inl (0, 201, .inl (fun j => nI (tc j)))) {j z : Nat} {c4 : Nat → Nat} (hj : j ≤ N) (hz : z ≤ j) : zMet G 2 M_Ta_readComparison [.ref 47, .ref 51] n u (MT ν ln c kd de bg j z c4) n u (rdP ν ln c kd de bg z c4 (cmpR tc j 0)) := by
  have htb := (hT.2.2 j).1
  have htb1 := (hT.2.2 (j + 1)).1
  have htb2 := (hT.2.2 (j + 1 + 1)).1
  have hN := hT.1
  have hNe : ∀ i, opB (tc i) = true ∨ sgB (tc i) = true → i ≠ N := fun i hi z => by
    rw [z, hT.2.1] at hi
    rcases hi with q | q <;> exact absurd q (by decide)
  refine z_start (lv := [.ref 47, .ref 51, .retAddr 0, .retAddr 0, .retAddr 0]) K_Ta_readComparison rfl rfl (Nat.le_refl _) (Nat.le_refl _) (Nat.le_of_ble_eq_true rfl) rfl ?_
  refine z_al0 (pc' := 1) 0 rfl rfl ?_
  refine z_getf (pc' := 4) 1 rfl rfl f_Ta_15_9 (by first | exact MT_47 | exact MT_51 | exact MT_55 | (rw [MT_o (by decide)]; assumption)) (by rfl) ?_
  refine z_al0 (pc' := 5) 2 rfl rfl ?_
  refine z_getf (pc' := 8) 3 rfl rfl f_Ta_28_9 (by first | exact MT_47 | exact MT_51 | exact MT_55 | (rw [MT_o (by decide)]; assumption)) (by rfl) ?_
  refine z_iald (pc' := 9) 4 rfl rfl (by first | exact MT_47 | exact MT_51 | exact MT_55 | (rw [MT_o (by decide)]; assumption)) (by omega) (by decide) ?_
  refine z_is2 rfl rfl (pc' := 10) 5 rfl rfl ?_
  refine z_il2 (pc' := 11) 6 rfl rfl ?_
  refine z_callS1 (pc' := 14) 7 rfl rfl k_Ta_100 (c_Ta_isValue (by omega)) (by decide) (Nat.le_refl _) (Nat.le_refl _) rfl rfl (Nat.le_of_ble_eq_true rfl) ?_
  first | refine z_if_neB (pc' := 17) 8 rfl rfl (tgt := 19) rfl (fun h14 => ?_) (fun h14 => ?_) | refine z_if_neN (pc' := 17) 8 rfl rfl (tgt := 19) rfl (by omega) (fun h14 => ?_) (fun h14 => ?_) | refine z_if_ne (pc' := 17) 8 rfl rfl (tgt := 19) rfl (fun h14 => ?_) (fun h14 => ?_)
  · have a1 := hNe _ (Or.inl h14)
    refine z_al0 (pc' := 20) 11 rfl rfl ?_
    refine z_dup rfl (pc' := 21) 12 rfl rfl ?_
    refine z_getf (pc' := 24) 13 rfl rfl f_Ta_28_9 (by first | exact MT_47 | exact MT_51 | exact MT_55 | (rw [MT_o (by decide)]; assumption)) (by rfl) ?_
    refine z_iconst (v := nI 1) (by decide) (pc' := 25) 14 rfl rfl ?_
    first | refine z_iaddN (pc' := 26) 15 rfl rfl ?_ | refine z_iadd (pc' := 26) 15 rfl rfl ?_
    refine z_putf (pc' := 29) 16 rfl rfl f_Ta_28_9 (by first | exact MT_47 | exact MT_51 | exact MT_55 | (rw [MT_o (by decide)]; assumption)) rfl rfl (by rfl) (by rfl) ?_
    dsimp only [List.set]
    rw [MT_s47]
    refine z_al0 (pc' := 30) 17 rfl rfl ?_
    refine z_getf (pc' := 33) 18 rfl rfl f_Ta_15_9 (by first | exact MT_47 | exact MT_51 | exact MT_55 | (rw [MT_o (by decide)]; assumption)) (by rfl) ?_
    refine z_al0 (pc' := 34) 19 rfl rfl ?_
    refine z_getf (pc' := 37) 20 rfl rfl f_Ta_28_9 (by first | exact MT_47 | exact MT_51 | exact MT_55 | (rw [MT_o (by decide)]; assumption)) (by rfl) ?_
    refine z_iald (pc' := 38) 21 rfl rfl (by first | exact MT_47 | exact MT_51 | exact MT_55 | (rw [MT_o (by decide)]; assumption)) (by omega) (by decide) ?_
    refine z_is3 rfl rfl (pc' := 39) 22 rfl rfl ?_
    refine z_il3 (pc' := 40) 23 rfl rfl ?_
    refine z_bipush (v := nI 21) (by decide) (pc' := 42) 24 rfl rfl ?_
    refine z_bipush (v := nI 23) (by decide) (pc' := 44) 25 rfl rfl ?_
    refine z_callS1 (pc' := 47) 26 rfl rfl k_Ta_76 (c_Wb_within _ _ _) (by decide) (Nat.le_refl _) (Nat.le_refl _) rfl rfl (Nat.le_of_ble_eq_true rfl) ?_
    first | refine z_if_neB (pc' := 50) 27 rfl rfl (tgt := 52) rfl (fun h47 => ?_) (fun h47 => ?_) | refine z_if_neN (pc' := 50) 27 rfl rfl (tgt := 52) rfl (by omega) (fun h47 => ?_) (fun h47 => ?_) | refine z_if_ne (pc' := 50) 27 rfl rfl (tgt := 52) rfl (fun h47 => ?_) (fun h47 => ?_)
    · have a2 := hNe _ (Or.inr ((sgB_w (by omega)).mp h47))
      refine z_al0 (pc' := 53) 30 rfl rfl ?_
      refine z_dup rfl (pc' := 54) 31 rfl rfl ?_
      refine z_getf (pc' := 57) 32 rfl rfl f_Ta_28_9 (by first | exact MT_47 | exact MT_51 | exact MT_55 | (rw [MT_o (by decide)]; assumption)) (by rfl) ?_
      refine z_iconst (v := nI 1) (by decide) (pc' := 58) 33 rfl rfl ?_
      first | refine z_iaddN (pc' := 59) 34 rfl rfl ?_ | refine z_iadd (pc' := 59) 34 rfl rfl ?_
      refine z_putf (pc' := 62) 35 rfl rfl f_Ta_28_9 (by first | exact MT_47 | exact MT_51 | exact MT_55 | (rw [MT_o (by decide)]; assumption)) rfl rfl (by rfl) (by rfl) ?_
      dsimp only [List.set]
      rw [MT_s47]
      refine z_al0 (pc' := 63) 36 rfl rfl ?_
      refine z_getf (pc' := 66) 37 rfl rfl f_Ta_15_9 (by first | exact MT_47 | exact MT_51 | exact MT_55 | (rw [MT_o (by decide)]; assumption)) (by rfl) ?_
      refine z_al0 (pc' := 67) 38 rfl rfl ?_
      refine z_getf (pc' := 70) 39 rfl rfl f_Ta_28_9 (by first | exact MT_47 | exact MT_51 | exact MT_55 | (rw [MT_o (by decide)]; assumption)) (by rfl) ?_
      refine z_iald (pc' := 71) 40 rfl rfl (by first | exact MT_47 | exact MT_51 | exact MT_55 | (rw [MT_o (by decide)]; assumption)) (by omega) (by decide) ?_
      refine z_is4 rfl rfl (pc' := 73) 41 rfl rfl ?_
      refine z_il4 (pc' := 75) 42 rfl rfl ?_
      refine z_callS1 (pc' := 78) 43 rfl rfl k_Ta_100 (c_Ta_isValue (by omega)) (by decide) (Nat.le_refl _) (Nat.le_refl _) rfl rfl (Nat.le_of_ble_eq_true rfl) ?_
      first | refine z_if_neB (pc' := 81) 44 rfl rfl (tgt := 83) rfl (fun h78 => ?_) (fun h78 => ?_) | refine z_if_neN (pc' := 81) 44 rfl rfl (tgt := 83) rfl (by omega) (fun h78 => ?_) (fun h78 => ?_) | refine z_if_ne (pc' := 81) 44 rfl rfl (tgt := 83) rfl (fun h78 => ?_) (fun h78 => ?_)
      · have a3 := hNe _ (Or.inl h78)
        refine z_al0 (pc' := 84) 47 rfl rfl ?_
        refine z_dup rfl (pc' := 85) 48 rfl rfl ?_
        refine z_getf (pc' := 88) 49 rfl rfl f_Ta_28_9 (by first | exact MT_47 | exact MT_51 | exact MT_55 | (rw [MT_o (by decide)]; assumption)) (by rfl) ?_
        refine z_iconst (v := nI 1) (by decide) (pc' := 89) 50 rfl rfl ?_
        first | refine z_iaddN (pc' := 90) 51 rfl rfl ?_ | refine z_iadd (pc' := 90) 51 rfl rfl ?_
        refine z_putf (pc' := 93) 52 rfl rfl f_Ta_28_9 (by first | exact MT_47 | exact MT_51 | exact MT_55 | (rw [MT_o (by decide)]; assumption)) rfl rfl (by rfl) (by rfl) ?_
        dsimp only [List.set]
        rw [MT_s47]
        refine z_al1 (pc' := 94) 53 rfl rfl ?_
        refine z_il3 (pc' := 95) 54 rfl rfl ?_
        refine z_callV0 (pc' := 98) 55 rfl rfl k_Ta_93 (by first | exact MT_47 | exact MT_51 | exact MT_55 | (rw [MT_o (by decide)]; assumption)) (c_Bk_writes (by omega)) (by decide) (Nat.le_refl _) (Nat.le_refl _) rfl rfl (Nat.le_of_ble_eq_true rfl) ?_
        refine z_al1 (pc' := 99) 56 rfl rfl ?_
        refine z_il2 (pc' := 100) 57 rfl rfl ?_
        refine z_callV0 (pc' := 103) 58 rfl rfl k_Ta_93 (by first | exact MT_47 | exact MT_51 | exact MT_55 | (rw [MT_o (by decide)]; assumption)) (c_Bk_writes (by omega)) (by decide) (Nat.le_refl _) (Nat.le_refl _) rfl rfl (Nat.le_of_ble_eq_true rfl) ?_
        refine z_al1 (pc' := 104) 59 rfl rfl ?_
        refine z_il4 (pc' := 106) 60 rfl rfl ?_
        refine z_callV0 (pc' := 109) 61 rfl rfl k_Ta_93 (by first | exact MT_47 | exact MT_51 | exact MT_55 | (rw [MT_o (by decide)]; assumption)) (c_Bk_writes (by omega)) (by decide) (Nat.le_refl _) (Nat.le_refl _) rfl rfl (Nat.le_of_ble_eq_true rfl) ?_
        refine z_iconst (v := nI 1) (by decide) (pc' := 110) 62 rfl rfl ?_
        exact z_ireturn 63 rfl rfl (by first | rfl | exact zbo_nar) rfl rfl (by exact rd_cmp h14 ((sgB_w (by omega)).mp h47) h78 (by omega))
      · refine z_iconst (v := nI 0) (by decide) (pc' := 82) 45 rfl rfl ?_
        exact z_ireturn 46 rfl rfl (by first | rfl | exact zbo_nar) rfl rfl (by rw [show cmpR tc j 0 = fl9 (j + 2) by rw [cmpR, if_pos h14, if_pos ((sgB_w (by omega)).mp h47), if_neg h78]]; exact rd_fl (by omega))
    · refine z_iconst (v := nI 0) (by decide) (pc' := 51) 28 rfl rfl ?_
      exact z_ireturn 29 rfl rfl (by first | rfl | exact zbo_nar) rfl rfl (by rw [show cmpR tc j 0 = fl9 (j + 1) by rw [cmpR, if_pos h14, if_neg (fun z => h47 ((sgB_w (by omega)).mpr z))]]; exact rd_fl (by omega))
  · refine z_iconst (v := nI 0) (by decide) (pc' := 18) 9 rfl rfl ?_
    exact z_ireturn 10 rfl rfl (by first | rfl | exact zbo_nar) rfl rfl (by rw [show cmpR tc j 0 = fl9 j from if_neg h14]; exact rd_fl (by omega))
set_option maxHeartbeats 4000000 in
set_option maxRecDepth 100000 in
theorem l_Ta_nots {G : zG} {n u d : Nat} {Φ : zP} {ν : Nat → va_E} {ln : Nat} {c : Int32} {kd de bg : Nat → Int32} {tc : Nat → Nat} {N : Nat} (hT : iTk tc N) (h49 : ν 49 = .inl (0, 201, .inl (fun j => nI (tc j)))) {z : Nat} {c4 : Nat → Nat} {o : Int32} : ∀ F j (tb : Bool), j ≤ N → N ≤ j + F →
    (zW G d M_Ta_readOne 49 [.ref 47, .ref 51, .int o, .int (bI (if ntC tc F j % 2 = 0 then tb else !tb)), .retAddr 0] [] n u (MT ν ln c kd de bg (j + ntC tc F j) z c4) n u Φ) →
    zW G d M_Ta_readOne 2 [.ref 47, .ref 51, .int o, .int (bI tb), .retAddr 0] [] n u (MT ν ln c kd de bg j z c4) n u Φ
  | 0, j, tb, hj, hF, K => by
    have htb := (hT.2.2 j).1
    have hN := hT.1
    have hjN : j = N := by omega
    have h25 : tc j = 25 := by rw [hjN]; exact hT.2.1
    refine z_al0 (pc' := 3) 2 rfl rfl ?_
    refine z_getf (pc' := 6) 3 rfl rfl f_Ta_28_9 (by first | exact MT_47 | exact MT_51 | exact MT_55 | (rw [MT_o (by decide)]; assumption)) (by rfl) ?_
    refine z_sipush (v := nI 200) (by decide) (pc' := 9) 4 rfl rfl ?_
    first | refine z_icmp_geN (pc' := 12) 5 rfl rfl (tgt := 49) rfl (by omega) (by omega) (fun h9 => ?_) (fun h9 => ?_) | refine z_icmp_ge (pc' := 12) 5 rfl rfl (tgt := 49) rfl (fun h9 => ?_) (fun h9 => ?_)
    · exact K
    · refine z_al0 (pc' := 13) 6 rfl rfl ?_
      refine z_getf (pc' := 16) 7 rfl rfl f_Ta_15_9 (by first | exact MT_47 | exact MT_51 | exact MT_55 | (rw [MT_o (by decide)]; assumption)) (by rfl) ?_
      refine z_al0 (pc' := 17) 8 rfl rfl ?_
      refine z_getf (pc' := 20) 9 rfl rfl f_Ta_28_9 (by first | exact MT_47 | exact MT_51 | exact MT_55 | (rw [MT_o (by decide)]; assumption)) (by rfl) ?_
      refine z_iald (pc' := 21) 10 rfl rfl (by first | exact MT_47 | exact MT_51 | exact MT_55 | (rw [MT_o (by decide)]; assumption)) (by omega) (by decide) ?_
      refine z_bipush (v := nI 12) (by decide) (pc' := 23) 11 rfl rfl ?_
      first | refine z_icmp_neN (pc' := 26) 12 rfl rfl (tgt := 49) rfl (by omega) (by omega) (fun h23 => ?_) (fun h23 => ?_) | refine z_icmp_ne (pc' := 26) 12 rfl rfl (tgt := 49) rfl (fun h23 => ?_) (fun h23 => ?_)
      · exact K
      · exfalso; omega
  | F + 1, j, tb, hj, hF, K => by
    have htb := (hT.2.2 j).1
    have hN := hT.1
    have h25 : j = N → tc j = 25 := fun z => by rw [z]; exact hT.2.1
    refine z_al0 (pc' := 3) 2 rfl rfl ?_
    refine z_getf (pc' := 6) 3 rfl rfl f_Ta_28_9 (by first | exact MT_47 | exact MT_51 | exact MT_55 | (rw [MT_o (by decide)]; assumption)) (by rfl) ?_
    refine z_sipush (v := nI 200) (by decide) (pc' := 9) 4 rfl rfl ?_
    first | refine z_icmp_geN (pc' := 12) 5 rfl rfl (tgt := 49) rfl (by omega) (by omega) (fun h9 => ?_) (fun h9 => ?_) | refine z_icmp_ge (pc' := 12) 5 rfl rfl (tgt := 49) rfl (fun h9 => ?_) (fun h9 => ?_)
    · rw [show ntC tc (F + 1) j = 0 from if_neg (by omega)] at K
      exact K
    · refine z_al0 (pc' := 13) 6 rfl rfl ?_
      refine z_getf (pc' := 16) 7 rfl rfl f_Ta_15_9 (by first | exact MT_47 | exact MT_51 | exact MT_55 | (rw [MT_o (by decide)]; assumption)) (by rfl) ?_
      refine z_al0 (pc' := 17) 8 rfl rfl ?_
      refine z_getf (pc' := 20) 9 rfl rfl f_Ta_28_9 (by first | exact MT_47 | exact MT_51 | exact MT_55 | (rw [MT_o (by decide)]; assumption)) (by rfl) ?_
      refine z_iald (pc' := 21) 10 rfl rfl (by first | exact MT_47 | exact MT_51 | exact MT_55 | (rw [MT_o (by decide)]; assumption)) (by omega) (by decide) ?_
      refine z_bipush (v := nI 12) (by decide) (pc' := 23) 11 rfl rfl ?_
      first | refine z_icmp_neN (pc' := 26) 12 rfl rfl (tgt := 49) rfl (by omega) (by omega) (fun h23 => ?_) (fun h23 => ?_) | refine z_icmp_ne (pc' := 26) 12 rfl rfl (tgt := 49) rfl (fun h23 => ?_) (fun h23 => ?_)
      · rw [show ntC tc (F + 1) j = 0 from if_neg (by omega)] at K
        exact K
      · refine z_il3 (pc' := 27) 13 rfl rfl ?_
        first | refine z_if_neB (pc' := 30) 14 rfl rfl (tgt := 34) rfl (fun h27 => ?_) (fun h27 => ?_) | refine z_if_neN (pc' := 30) 14 rfl rfl (tgt := 34) rfl (by omega) (fun h27 => ?_) (fun h27 => ?_) | refine z_if_ne (pc' := 30) 14 rfl rfl (tgt := 34) rfl (fun h27 => ?_) (fun h27 => ?_)
        · refine z_iconst (v := nI 0) (by decide) (pc' := 35) 17 rfl rfl ?_
          refine z_is3 rfl rfl (pc' := 36) 18 rfl rfl ?_
          refine z_al0 (pc' := 37) 19 rfl rfl ?_
          refine z_dup rfl (pc' := 38) 20 rfl rfl ?_
          refine z_getf (pc' := 41) 21 rfl rfl f_Ta_28_9 (by first | exact MT_47 | exact MT_51 | exact MT_55 | (rw [MT_o (by decide)]; assumption)) (by rfl) ?_
          refine z_iconst (v := nI 1) (by decide) (pc' := 42) 22 rfl rfl ?_
          first | refine z_iaddN (pc' := 43) 23 rfl rfl ?_ | refine z_iadd (pc' := 43) 23 rfl rfl ?_
          refine z_putf (pc' := 46) 24 rfl rfl f_Ta_28_9 (by first | exact MT_47 | exact MT_51 | exact MT_55 | (rw [MT_o (by decide)]; assumption)) rfl rfl (by rfl) (by rfl) ?_
          dsimp only [List.set]
          rw [MT_s47]
          refine z_goto 25 rfl (tgt := 2) rfl ?_
          rw [show ntC tc (F + 1) j = ntC tc F (j + 1) + 1 from if_pos h23] at K
          refine l_Ta_nots hT h49 F (j + 1) false (by omega) (by omega) ?_
          rw [show (if ntC tc F (j + 1) % 2 = 0 then false else !false) = (if (ntC tc F (j + 1) + 1) % 2 = 0 then tb else !tb) by
            subst h27
            by_cases q : ntC tc F (j + 1) % 2 = 0
            · rw [if_pos q, if_neg (by omega)]; rfl
            · rw [if_neg q, if_pos (by omega)]; rfl, show j + 1 + ntC tc F (j + 1) = j + (ntC tc F (j + 1) + 1) by omega]
          exact K
        · refine z_iconst (v := nI 1) (by decide) (pc' := 31) 15 rfl rfl ?_
          refine z_goto 16 rfl (tgt := 35) rfl ?_
          refine z_is3 rfl rfl (pc' := 36) 18 rfl rfl ?_
          refine z_al0 (pc' := 37) 19 rfl rfl ?_
          refine z_dup rfl (pc' := 38) 20 rfl rfl ?_
          refine z_getf (pc' := 41) 21 rfl rfl f_Ta_28_9 (by first | exact MT_47 | exact MT_51 | exact MT_55 | (rw [MT_o (by decide)]; assumption)) (by rfl) ?_
          refine z_iconst (v := nI 1) (by decide) (pc' := 42) 22 rfl rfl ?_
          first | refine z_iaddN (pc' := 43) 23 rfl rfl ?_ | refine z_iadd (pc' := 43) 23 rfl rfl ?_
          refine z_putf (pc' := 46) 24 rfl rfl f_Ta_28_9 (by first | exact MT_47 | exact MT_51 | exact MT_55 | (rw [MT_o (by decide)]; assumption)) rfl rfl (by rfl) (by rfl) ?_
          dsimp only [List.set]
          rw [MT_s47]
          refine z_goto 25 rfl (tgt := 2) rfl ?_
          rw [show ntC tc (F + 1) j = ntC tc F (j + 1) + 1 from if_pos h23] at K
          refine l_Ta_nots hT h49 F (j + 1) true (by omega) (by omega) ?_
          rw [show (if ntC tc F (j + 1) % 2 = 0 then true else !true) = (if (ntC tc F (j + 1) + 1) % 2 = 0 then tb else !tb) by
            have h27 := eq_false_of_ne_true h27
            subst h27
            by_cases q : ntC tc F (j + 1) % 2 = 0
            · rw [if_pos q, if_neg (by omega)]; rfl
            · rw [if_neg q, if_pos (by omega)]; rfl, show j + 1 + ntC tc F (j + 1) = j + (ntC tc F (j + 1) + 1) by omega]
          exact K
theorem cmp_k {tc : Nat → Nat} {j k : Nat} : cmpR tc j k = if (cmpR tc j 0).2.1 = true then ((cmpR tc j 0).1, true, (cmpR tc j 0).2.2.1 ++ nts (k % 2), (cmpR tc j 0).2.2.2 ++ nts k) else fl9 (cmpR tc j 0).1 := by
  unfold cmpR
  split
  · split
    · split
      · rfl
      · rfl
    · rfl
  · rfl
theorem rd_not {ν : Nat → va_E} {ln : Nat} {c : Int32} {kd de bg : Nat → Int32} {z z' : Nat} {c4 c4' : Nat → Nat} {R : zR9} (hz : z' + 1 ≤ 200) (hq : z' = z + wl R.2.2.1 ∧ (∀ i, i < z → c4' i = c4 i) ∧ sg c4' z R.2.2.1 z') {i : Nat} {im : zI} : rdP ν ln c kd de bg z c4 (i, true, R.2.2.1 ++ nts 1, im) (some (.int (nI 1))) (MT ν ln c kd de bg i (z' + 1) (un c4' z' 12)) := by
  obtain ⟨q1, q2, q3⟩ := hq
  refine ⟨z' + 1, _, rfl, rfl, hz, fun _ => ⟨?_, fun i hi => ?_, ?_⟩⟩
  · show z' + 1 = z + wl (R.2.2.1 ++ nts 1)
    rw [wl_app, wl_nts]
    omega
  · rw [un_n (by omega)]; exact q2 i hi
  · have hs : sg (un c4' z' 12) z' (nts 1) (z' + 1) := by
      show un c4' z' 12 z' = 12 ∧ (if 12 < 21 then sg (un c4' z' 12) (z' + 1) [] (z' + 1) else _)
      exact ⟨un_s, by rw [if_pos (by decide)]; rfl⟩
    exact sg_app hs _ _ (sg_ext _ _ _ (fun j hj => un_n (by omega)) q3)
theorem rd_no0 {ν : Nat → va_E} {ln : Nat} {c : Int32} {kd de bg : Nat → Int32} {z z' : Nat} {c4 c4' : Nat → Nat} {R : zR9} (hz : z' ≤ 200) (hq : z' = z + wl R.2.2.1 ∧ (∀ i, i < z → c4' i = c4 i) ∧ sg c4' z R.2.2.1 z') {i : Nat} {im : zI} : rdP ν ln c kd de bg z c4 (i, true, R.2.2.1 ++ nts 0, im) (some (.int (nI 1))) (MT ν ln c kd de bg i z' c4') := by
  rw [show nts 0 = [] from rfl, List.append_nil]
  exact ⟨z', c4', rfl, rfl, hz, fun _ => hq⟩
