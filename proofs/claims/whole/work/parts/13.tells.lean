set_option maxHeartbeats 4000000 in
set_option maxRecDepth 100000 in
theorem c_Bk_holds {G : zG} {n u : Nat} {μ : Nat → va_E} {b : Nat} {β : Nat → Nat → Nat} (hb : isBk μ b β) {q r e : Nat} {f : Nat → Nat} (hq : μ q = .inl (0, 5, .inl (fun j => nI (f j)))) (hr : r < 8) (he : β 3 (r + 1) = e) (he2 : e ≤ 200) (hf : ∀ j, j < 5 → f j < 2 ^ 31) {its : zI} (hs : sg (β 4) (β 3 r) its e) (hok : okI its 0) :
    zMet G 1 M_Bk_holds [.ref b, .int (nI r), .ref q] n u μ n u (zE (some (.int (zbo (tpB (evB f its []) = true)))) μ) := by
  refine z_start (lv := [.ref b, .int (nI r), .ref q, .retAddr 0, .retAddr 0]) K_Bk_holds rfl rfl (Nat.le_refl _) (Nat.le_refl _) (Nat.le_of_ble_eq_true rfl) rfl ?_
  have hb0 := hb
  obtain ⟨m0, m1, m2, m3, m4⟩ := hb
  refine z_iconst (v := nI 1) (by decide) (pc' := 1) 0 rfl rfl ?_
  refine z_is3 rfl rfl (pc' := 2) 1 rfl rfl ?_
  refine z_al0 (pc' := 3) 2 rfl rfl ?_
  refine z_getf (pc' := 6) 3 rfl rfl f_Bk_18_0 (by assumption) (by rfl) ?_
  refine z_il1 (pc' := 7) 4 rfl rfl ?_
  refine z_iald (pc' := 8) 5 rfl rfl (by assumption) (by omega) (by decide) ?_
  refine z_is4 rfl rfl (pc' := 10) 6 rfl rfl ?_
  exact l_Bk_holds hb0 hq hr he he2 hf its _ [] hs hok (by decide)
/-- the rules are as they must be: its r is the condition of rule r -/
def wfB (β : Nat → Nat → Nat) (its : Nat → zI) : Prop := β 0 0 ≤ 8 ∧ ∀ r, r < β 0 0 → sg (β 4) (β 3 r) (its r) (β 3 (r + 1)) ∧ okI (its r) 0 ∧ β 3 (r + 1) ≤ 200 ∧ β 1 r ≤ 5 ∧ β 2 r ≤ 2
/-- what the rules from r on tell, m of them -/
def tlN (β : Nat → Nat → Nat) (its : Nat → zI) (k : Nat) (f : Nat → Nat) : Nat → Nat → Nat
  | 0, _ => 0
  | m + 1, r => if udB k (β 1 r) = true ∧ tpB (evB f (its r) []) = true then β 2 r else tlN β its k f m (r + 1)
theorem tlN_le {β : Nat → Nat → Nat} {its : Nat → zI} (h : wfB β its) {k : Nat} {f : Nat → Nat} : ∀ m r, r + m = β 0 0 → tlN β its k f m r ≤ 2
  | 0, _, _ => Nat.zero_le _
  | m + 1, r, e => by
    unfold tlN
    split
    · exact (h.2 r (by omega)).2.2.2.2
    · exact tlN_le h m (r + 1) (by omega)
set_option maxHeartbeats 4000000 in
set_option maxRecDepth 100000 in
theorem l_Bk_tells {G : zG} {n u : Nat} {μ : Nat → va_E} {b : Nat} {β : Nat → Nat → Nat} (hb : isBk μ b β) {q k : Nat} {f : Nat → Nat} {its : Nat → zI} (hq : μ q = .inl (0, 5, .inl (fun j => nI (f j)))) (hf : ∀ j, j < 5 → f j < 2 ^ 31) (hk : k ≤ 5) (hw : wfB β its) : ∀ m r, r + m = β 0 0 →
    zW G 2 M_Bk_tells 2 [.ref b, .int (nI k), .ref q, .int (nI r)] [] n u μ n u (zE (some (.int (nI (tlN β its k f m r)))) μ)
  | 0, r, e => by
    have hc := hw.1
    obtain ⟨m0, m1, m2, m3, m4⟩ := hb
    refine z_il3 (pc' := 3) 2 rfl rfl ?_
    refine z_al0 (pc' := 4) 3 rfl rfl ?_
    refine z_getf (pc' := 7) 4 rfl rfl f_Bk_26_0 (by assumption) (by rfl) ?_
    first | refine z_icmp_geN (pc' := 10) 5 rfl rfl (tgt := 45) rfl (by omega) (by omega) (fun h7 => ?_) (fun h7 => ?_) | refine z_icmp_ge (pc' := 10) 5 rfl rfl (tgt := 45) rfl (fun h7 => ?_) (fun h7 => ?_)
    · refine z_iconst (v := nI 0) (by decide) (pc' := 46) 25 rfl rfl ?_
      exact z_ireturn 26 rfl rfl (by first | rfl | exact zbo_nar) rfl rfl (by exact ⟨rfl, rfl⟩)
    · exfalso; omega
  | m + 1, r, e => by
    have hc := hw.1
    obtain ⟨w1, w2, w3, w4, w5⟩ := hw.2 r (by omega)
    have hb0 := hb
    obtain ⟨m0, m1, m2, m3, m4⟩ := hb
    refine z_il3 (pc' := 3) 2 rfl rfl ?_
    refine z_al0 (pc' := 4) 3 rfl rfl ?_
    refine z_getf (pc' := 7) 4 rfl rfl f_Bk_26_0 (by assumption) (by rfl) ?_
    first | refine z_icmp_geN (pc' := 10) 5 rfl rfl (tgt := 45) rfl (by omega) (by omega) (fun h7 => ?_) (fun h7 => ?_) | refine z_icmp_ge (pc' := 10) 5 rfl rfl (tgt := 45) rfl (fun h7 => ?_) (fun h7 => ?_)
    · exfalso; omega
    · refine z_il1 (pc' := 11) 6 rfl rfl ?_
      refine z_al0 (pc' := 12) 7 rfl rfl ?_
      refine z_getf (pc' := 15) 8 rfl rfl f_Bk_11_0 (by assumption) (by rfl) ?_
      refine z_il3 (pc' := 16) 9 rfl rfl ?_
      refine z_iald (pc' := 17) 10 rfl rfl (by assumption) (by omega) (by decide) ?_
      refine z_callS1 (pc' := 20) 11 rfl rfl k_Bk_39 (c_Wb_isUnder hk (by omega)) (by decide) (Nat.le_refl _) (Nat.le_refl _) rfl rfl (Nat.le_of_ble_eq_true rfl) ?_
      first | refine z_if_eqB (pc' := 23) 12 rfl rfl (tgt := 39) rfl (fun h20 => ?_) (fun h20 => ?_) | refine z_if_eqN (pc' := 23) 12 rfl rfl (tgt := 39) rfl (by omega) (fun h20 => ?_) (fun h20 => ?_) | refine z_if_eq (pc' := 23) 12 rfl rfl (tgt := 39) rfl (fun h20 => ?_) (fun h20 => ?_)
      · rw [tlN, if_neg (fun z => by first | exact h20 z.1 | exact h29 z.2)]
        first | refine z_inc3N rfl rfl (pc' := 42) 23 rfl rfl ?_ | refine z_inc3 rfl rfl rfl (pc' := 42) 23 rfl rfl ?_
        refine z_goto 24 rfl (tgt := 2) rfl ?_
        exact l_Bk_tells hb0 hq hf hk hw m (r + 1) (by omega)
      · refine z_al0 (pc' := 24) 13 rfl rfl ?_
        refine z_il3 (pc' := 25) 14 rfl rfl ?_
        refine z_al2 (pc' := 26) 15 rfl rfl ?_
        refine z_callV1 (pc' := 29) 16 rfl rfl k_Bk_43 (by assumption) (c_Bk_holds hb0 hq (by omega) rfl w3 hf w1 w2) (by decide) (Nat.le_refl _) (Nat.le_refl _) rfl rfl (Nat.le_of_ble_eq_true rfl) ?_
        first | refine z_if_eqB (pc' := 32) 17 rfl rfl (tgt := 39) rfl (fun h29 => ?_) (fun h29 => ?_) | refine z_if_eqN (pc' := 32) 17 rfl rfl (tgt := 39) rfl (by omega) (fun h29 => ?_) (fun h29 => ?_) | refine z_if_eq (pc' := 32) 17 rfl rfl (tgt := 39) rfl (fun h29 => ?_) (fun h29 => ?_)
        · rw [tlN, if_neg (fun z => by first | exact h20 z.1 | exact h29 z.2)]
          first | refine z_inc3N rfl rfl (pc' := 42) 23 rfl rfl ?_ | refine z_inc3 rfl rfl rfl (pc' := 42) 23 rfl rfl ?_
          refine z_goto 24 rfl (tgt := 2) rfl ?_
          exact l_Bk_tells hb0 hq hf hk hw m (r + 1) (by omega)
        · refine z_al0 (pc' := 33) 18 rfl rfl ?_
          refine z_getf (pc' := 36) 19 rfl rfl f_Bk_15_0 (by assumption) (by rfl) ?_
          refine z_il3 (pc' := 37) 20 rfl rfl ?_
          refine z_iald (pc' := 38) 21 rfl rfl (by assumption) (by omega) (by decide) ?_
          exact z_ireturn 22 rfl rfl (by first | rfl | exact zbo_nar) rfl rfl (by rw [tlN, if_pos ⟨h20, h29⟩]; exact ⟨rfl, rfl⟩)
set_option maxHeartbeats 4000000 in
set_option maxRecDepth 100000 in
theorem c_Bk_tells {G : zG} {n u : Nat} {μ : Nat → va_E} {b : Nat} {β : Nat → Nat → Nat} (hb : isBk μ b β) {q k : Nat} {f : Nat → Nat} {its : Nat → zI} (hq : μ q = .inl (0, 5, .inl (fun j => nI (f j)))) (hf : ∀ j, j < 5 → f j < 2 ^ 31) (hk : k ≤ 5) (hw : wfB β its) :
    zMet G 2 M_Bk_tells [.ref b, .int (nI k), .ref q] n u μ n u (zE (some (.int (nI (tlN β its k f (β 0 0) 0)))) μ) := by
  refine z_start (lv := [.ref b, .int (nI k), .ref q, .retAddr 0]) K_Bk_tells rfl rfl (Nat.le_refl _) (Nat.le_refl _) (Nat.le_of_ble_eq_true rfl) rfl ?_
  refine z_iconst (v := nI 0) (by decide) (pc' := 1) 0 rfl rfl ?_
  refine z_is3 rfl rfl (pc' := 2) 1 rfl rfl ?_
  exact l_Bk_tells hb hq hf hk hw (β 0 0) 0 (by omega)
