/-! ===== the game ===== -/
def bst (b : Bool) (F : Nat → Nat) : Nat → Nat × Nat
  | 0 => (0, 0)
  | k + 1 => if k = 0 ∨ (if b = true then (bst b F k).1 < F k else F k < (bst b F k).1) then (F k, k) else bst b F k
def gv (S : Nat → Nat → Nat) (D : zD6) : Nat → Bool → zT3 → Nat
  | 0, _, _ => 0
  | r + 1, b, t => (bst b (fun act => wor S D act t + gv S D r (!b) (stp S D act t)) (S 0 0 + 1)).1
def gF (S : Nat → Nat → Nat) (D : zD6) (r : Nat) (b : Bool) (t : zT3) : Nat → Nat := fun act => wor S D act t + gv S D r (!b) (stp S D act t)
theorem gv_s {S : Nat → Nat → Nat} {D : zD6} {r : Nat} {b : Bool} {t : zT3} : gv S D (r + 1) b t = (bst b (gF S D r b t) (S 0 0 + 1)).1 := rfl
theorem bst_T {b : Bool} {F : Nat → Nat} {k : Nat} (h : k = 0 ∨ (if b = true then (bst b F k).1 < F k else F k < (bst b F k).1)) : bst b F (k + 1) = (F k, k) := by rw [bst, if_pos h]
theorem bst_le {b : Bool} {F : Nat → Nat} {m : Nat} (h : ∀ k, F k ≤ m) : ∀ k, (bst b F k).1 ≤ m
  | 0 => Nat.zero_le _
  | k + 1 => by
    by_cases q : k = 0 ∨ (if b = true then (bst b F k).1 < F k else F k < (bst b F k).1)
    · rw [bst_T q]; exact h k
    · rw [bst, if_neg q]; exact bst_le h k
theorem gv_le {S : Nat → Nat → Nat} (hi : iS S) {D : zD6} : ∀ r b t, gv S D r b t ≤ 108 * r
  | 0, _, _ => Nat.le_refl _
  | r + 1, b, t => by
    rw [gv_s]
    refine bst_le (fun k => ?_) _
    have h1 := wor_le hi (D := D) (act := k) (t := t)
    have h2 := gv_le hi (D := D) r (!b) (stp S D k t)
    show wor S D k t + gv S D r (!b) (stp S D k t) ≤ _
    omega
theorem gF_le {S : Nat → Nat → Nat} (hi : iS S) {D : zD6} {r : Nat} {b : Bool} {t : zT3} (k : Nat) : gF S D r b t k ≤ 108 * (r + 1) := by
  have h1 := wor_le hi (D := D) (act := k) (t := t)
  have h2 := gv_le hi (D := D) r (!b) (stp S D k t)
  show wor S D k t + gv S D r (!b) (stp S D k t) ≤ _
  omega
theorem bst_F {b : Bool} {F : Nat → Nat} {k : Nat} (h0 : k ≠ 0) (h : ¬ (if b = true then (bst b F k).1 < F k else F k < (bst b F k).1)) : bst b F (k + 1) = bst b F k := by rw [bst, if_neg (fun z => z.elim h0 h)]
/-- the first one that is best -/
theorem bst_first {F : Nat → Nat} : ∀ k, (bst true F (k + 1)).2 ≤ k ∧ (bst true F (k + 1)).1 = F (bst true F (k + 1)).2 ∧ (∀ j, j < (bst true F (k + 1)).2 → F j < (bst true F (k + 1)).1)
  | 0 => by
    rw [bst_T (Or.inl rfl)]
    exact ⟨Nat.le_refl _, rfl, fun j hj => absurd hj (Nat.not_lt_zero j)⟩
  | k + 1 => by
    obtain ⟨i1, i2, i3⟩ := bst_first (F := F) k
    have i4 : ∀ m j, j < m + 1 → F j ≤ (bst true F (m + 1)).1 := by
      intro m
      induction m with
      | zero => intro j hj; rw [bst_T (Or.inl rfl), show j = 0 by omega]; exact Nat.le_refl _
      | succ m ih =>
        intro j hj
        by_cases q : (bst true F (m + 1)).1 < F (m + 1)
        · rw [bst_T (Or.inr (by rw [if_pos rfl]; exact q))]
          show F j ≤ F (m + 1)
          by_cases e : j = m + 1
          · rw [e]; exact Nat.le_refl _
          · have := ih j (by omega); omega
        · rw [bst_F (by omega) (by rw [if_pos rfl]; exact q)]
          by_cases e : j = m + 1
          · rw [e]; omega
          · exact ih j (by omega)
    by_cases q : (bst true F (k + 1)).1 < F (k + 1)
    · rw [bst_T (Or.inr (by rw [if_pos rfl]; exact q))]
      refine ⟨Nat.le_refl _, rfl, fun j hj => ?_⟩
      show F j < F (k + 1)
      have := i4 k j hj
      omega
    · rw [bst_F (by omega) (by rw [if_pos rfl]; exact q)]
      exact ⟨by omega, i2, i3⟩
def f_game : zκ → Int32 → Int32
  | (S, mo, pr, fa, _, _, _, D), x => if nI 1 ≤ x ∧ x ≤ nI 4 then nI (gv S D (min (tN x) (S 0 3 - mo)) true (mo, pr, fa)) else -1
def f_play : zκ → Int32 → Int32
  | (S, mo, pr, fa, _, _, _, D), x => if nI 1 ≤ x ∧ x ≤ nI 4 then (if S 0 3 ≤ mo then -3 else nI (bst true (gF S D (min (tN x) (S 0 3 - mo) - 1) true (mo, pr, fa)) (S 0 0 + 1)).2) else -1
theorem c_Co_isOver5 {G : zG} {n u : Nat} {μ : Nat → va_E} {S : Nat → Nat → Nat} {sc ch : Int32} {mo cs : Nat} {pr fa q : Nat → Nat} (hco : isCo μ S sc ch) (hb : isCr μ 13 mo cs pr fa q) (hi : iS S) (hm : mo ≤ 16) : zMet G 0 M_Co_isOver [.ref 5] n u μ n u (zE (some (.int (zbo (S 0 3 ≤ mo)))) μ) := by
  have h := c_Co_isOver (G := G) (n := n) (u := u) (ν := μ) (sc := sc) (ch := ch) (cs := cs) (pr := pr) (fa := fa) (q := q) hi hm
  rw [pcc_id hco hb] at h
  exact h
/-! the class -/
def evn (k : Nat) : Bool := decide (k % 2 = 0)
theorem evn_s (k : Nat) : (!evn k) = evn (k + 1) := by
  unfold evn
  by_cases h : k % 2 = 0
  · rw [decide_eq_true h, decide_eq_false (by omega)]; rfl
  · rw [decide_eq_false h, decide_eq_true (by omega)]; rfl
def opF (b : Bool) (F : Nat → Nat) (k d : Nat) (v6 : Int32) : Int32 := if k = 0 ∧ d ≠ 0 then nI (bst b F d).2 else v6
def gaP (ν : Nat → va_E) (S : Nat → Nat → Nat) (D : zD6) (r k : Nat) (t : zT3) (f ba rw ac : Nat → Int32) (ψ0 : Nat → zC5) : zP := fun r0 μ' => r0 = some (.int (nI (gv S D r (evn k) t))) ∧ ∃ (v : Int32) (ψ' : Nat → zC5), μ' = pc5 (pob ν (un f 6 v) (.ref 5) ba rw ac) ψ' ∧ (∀ i, i ≤ k → ψ' i = ψ0 i) ∧ (k ≠ 0 → v = f 6) ∧ (k = 0 → r ≠ 0 → v = nI (bst true (gF S D (r - 1) true t) (S 0 0 + 1)).2)
set_option maxHeartbeats 4000000 in
set_option maxRecDepth 100000 in
theorem l_Pl_gameValue {G : zG} {n u : Nat} {ν : Nat → va_E} {S : Nat → Nat → Nat} {sc ch : Int32} {bh : Nat → Option Nat} {β : Nat → Nat → Nat} {its : Nat → zI} {D : zD6} {f ba ac rw : Nat → Int32} (hco : isCo ν S sc ch) (hi : iS S) (hbk : isBk ν 17 β) (hD : dzB β its D) (h60 : ν 60 = .inl (3, 5, .inr (.inr (.inr (.inr bh))))) (hbh : ∀ j, j < 5 → bh j = some (61 + 4 * j)) {K : Nat} (hK : K ≤ 4) (hf0 : f 0 = nI K) {r : Nat} (ih : ∀ (k : Nat) (t : zT3) (f : Nat → Int32) (ψ : Nat → zC5), f 0 = nI K → k + r = K → t.1 + r ≤ 16 → iX S t.2.1 t.2.2 → atC (ψ k) t → zMet G (5 + r) M_Pl_gameValue [.ref 56, .int (nI k)] n u (pc5 (pob ν f (.ref 5) ba rw ac) ψ) n u (gaP ν S D r k t f ba rw ac ψ)) {k : Nat} {t : zT3} {ψ0 : Nat → zC5} (hk : k + (r + 1) = K) (ht : t.1 + (r + 1) ≤ 16) (hx : iX S t.2.1 t.2.2) (hc0 : atC (ψ0 k) t) : ∀ c d (ψ : Nat → zC5), d + c = S 0 0 + 1 → (∀ i, i ≤ k → ψ i = ψ0 i) →
    zW G (5 + (r + 1)) M_Pl_gameValue 14 [.ref 56, .int (nI k), .int (nI (bst (evn k) (gF S D r (evn k) t) d).1), .int (nI d), .retAddr 0, .retAddr 0] [] n u (pc5 (pob ν (un f 6 (opF (evn k) (gF S D r (evn k) t) k d (f 6))) (.ref 5) ba rw ac) ψ) n u (gaP ν S D (r + 1) k t f ba rw ac ψ0)
  | 0, d, ψ, e, hψ => by
    have hi0 := hi.1
    have hb9 := bst_le (b := evn k) (gF_le hi (D := D) (r := r) (b := evn k) (t := t)) d
    refine z_il3 (pc' := 15) 10 rfl rfl ?_
    refine z_al0 (pc' := 16) 11 rfl rfl ?_
    refine z_getf (pc' := 19) 12 rfl rfl f_Pl_28_7 (by first | (rw [pc5_o (by decide)]; first | exact pob_56 | exact pob_57 | exact pob_58 | exact pob_59 | (rw [pob_o (by decide)]; first | assumption | exact hco.1)) | exact (pc5_is (by omega)).1) (by rfl) ?_
    refine z_getf (pc' := 22) 13 rfl rfl f_Pl_76_3 (by first | (rw [pc5_o (by decide)]; first | exact pob_56 | exact pob_57 | exact pob_58 | exact pob_59 | (rw [pob_o (by decide)]; first | assumption | exact hco.1)) | exact (pc5_is (by omega)).1) (by rfl) ?_
    first | refine z_icmp_gtN (pc' := 25) 14 rfl rfl (tgt := 139) rfl (by omega) (by omega) (fun h22 => ?_) (fun h22 => ?_) | refine z_icmp_gt (pc' := 25) 14 rfl rfl (tgt := 139) rfl (fun h22 => ?_) (fun h22 => ?_)
    · refine z_il2 (pc' := 140) 79 rfl rfl ?_
      exact z_ireturn 80 rfl rfl (by first | rfl | exact zbo_nar) rfl rfl (by have e9 : d = S 0 0 + 1 := (by omega); subst e9; refine ⟨rfl, _, ψ, rfl, hψ, fun z => if_neg (fun y => z y.1), fun z _ => ?_⟩; rw [opF, if_pos ⟨z, Nat.succ_ne_zero _⟩]; subst z; rfl)
    · exfalso; omega
  | c + 1, d, ψ, e, hψ => by
    have hi0 := hi.1
    obtain ⟨q1, q2, q3⟩ : atC (ψ k) t := by rw [hψ k (Nat.le_refl _)]; exact hc0
    have hwl := wor_le hi (D := D) (act := d) (t := t)
    have hb9 := bst_le (b := evn k) (gF_le hi (D := D) (r := r) (b := evn k) (t := t)) d
    have hg9 := gv_le hi (D := D) r (evn (k + 1)) (stp S D d t)
    have hF9 : (gF S D r (evn k) t) d = wor S D d t + gv S D r (evn (k + 1)) (stp S D d t) := by
      show wor S D d t + gv S D r (!evn k) (stp S D d t) = _
      rw [evn_s]
    have hF8 := gF_le hi (D := D) (r := r) (b := evn k) (t := t) d
    have ihd : ∀ (g : Nat → Int32) (q9 : Nat → Nat), g 0 = nI K → zMet G (5 + r) M_Pl_gameValue [.ref 56, .int (nI (k + 1))] n u (pc5 (pob ν g (.ref 5) ba rw ac) (un ψ (k + 1) (t.1 + 1, crt S D d t, (stp S D d t).2.1, (stp S D d t).2.2, q9))) n u (gaP ν S D r (k + 1) (stp S D d t) g ba rw ac (un ψ (k + 1) (t.1 + 1, crt S D d t, (stp S D d t).2.1, (stp S D d t).2.2, q9))) := fun g q9 hg =>
      ih (k + 1) (stp S D d t) g _ hg (by omega) (by show t.1 + 1 + r ≤ 16; omega) (iX_stp hi hx) (by rw [un_s]; exact ⟨rfl, rfl, rfl⟩)
    refine z_il3 (pc' := 15) 10 rfl rfl ?_
    refine z_al0 (pc' := 16) 11 rfl rfl ?_
    refine z_getf (pc' := 19) 12 rfl rfl f_Pl_28_7 (by first | (rw [pc5_o (by decide)]; first | exact pob_56 | exact pob_57 | exact pob_58 | exact pob_59 | (rw [pob_o (by decide)]; first | assumption | exact hco.1)) | exact (pc5_is (by omega)).1) (by rfl) ?_
    refine z_getf (pc' := 22) 13 rfl rfl f_Pl_76_3 (by first | (rw [pc5_o (by decide)]; first | exact pob_56 | exact pob_57 | exact pob_58 | exact pob_59 | (rw [pob_o (by decide)]; first | assumption | exact hco.1)) | exact (pc5_is (by omega)).1) (by rfl) ?_
    first | refine z_icmp_gtN (pc' := 25) 14 rfl rfl (tgt := 139) rfl (by omega) (by omega) (fun h22 => ?_) (fun h22 => ?_) | refine z_icmp_gt (pc' := 25) 14 rfl rfl (tgt := 139) rfl (fun h22 => ?_) (fun h22 => ?_)
    · exfalso; omega
    · refine z_al0 (pc' := 26) 15 rfl rfl ?_
      refine z_getf (pc' := 29) 16 rfl rfl f_Pl_23_7 (by first | (rw [pc5_o (by decide)]; first | exact pob_56 | exact pob_57 | exact pob_58 | exact pob_59 | (rw [pob_o (by decide)]; first | assumption | exact hco.1)) | exact (pc5_is (by omega)).1) (by rfl) ?_
      refine z_il1 (pc' := 30) 17 rfl rfl ?_
      refine z_iconst (v := nI 1) (by decide) (pc' := 31) 18 rfl rfl ?_
      first | refine z_iaddN (pc' := 32) 19 rfl rfl ?_ | refine z_iadd (pc' := 32) 19 rfl rfl ?_
      refine z_aald (pc' := 33) 20 rfl rfl (by first | (rw [pc5_o (by decide)]; first | exact pob_56 | exact pob_57 | exact pob_58 | exact pob_59 | (rw [pob_o (by decide)]; first | assumption | exact hco.1)) | exact (pc5_is (by omega)).1) (by omega) (by decide) (by exact hbh _ (by omega)) ?_
      refine z_al0 (pc' := 34) 21 rfl rfl ?_
      refine z_getf (pc' := 37) 22 rfl rfl f_Pl_23_7 (by first | (rw [pc5_o (by decide)]; first | exact pob_56 | exact pob_57 | exact pob_58 | exact pob_59 | (rw [pob_o (by decide)]; first | assumption | exact hco.1)) | exact (pc5_is (by omega)).1) (by rfl) ?_
      refine z_il1 (pc' := 38) 23 rfl rfl ?_
      refine z_aald (pc' := 39) 24 rfl rfl (by first | (rw [pc5_o (by decide)]; first | exact pob_56 | exact pob_57 | exact pob_58 | exact pob_59 | (rw [pob_o (by decide)]; first | assumption | exact hco.1)) | exact (pc5_is (by omega)).1) (by omega) (by decide) (by exact hbh _ (by omega)) ?_
      refine z_callV0 (pc' := 42) 25 rfl rfl k_Pl_48 (by exact (pc5_is (by omega)).1) (c_copy5 (by omega) (by omega) (by omega)) (by omega) (Nat.le_refl _) (Nat.le_refl _) rfl rfl (Nat.le_of_ble_eq_true rfl) ?_
      refine z_al0 (pc' := 43) 26 rfl rfl ?_
      refine z_getf (pc' := 46) 27 rfl rfl f_Pl_23_7 (by first | (rw [pc5_o (by decide)]; first | exact pob_56 | exact pob_57 | exact pob_58 | exact pob_59 | (rw [pob_o (by decide)]; first | assumption | exact hco.1)) | exact (pc5_is (by omega)).1) (by rfl) ?_
      refine z_il1 (pc' := 47) 28 rfl rfl ?_
      refine z_iconst (v := nI 1) (by decide) (pc' := 48) 29 rfl rfl ?_
      first | refine z_iaddN (pc' := 49) 30 rfl rfl ?_ | refine z_iadd (pc' := 49) 30 rfl rfl ?_
      refine z_aald (pc' := 50) 31 rfl rfl (by first | (rw [pc5_o (by decide)]; first | exact pob_56 | exact pob_57 | exact pob_58 | exact pob_59 | (rw [pob_o (by decide)]; first | assumption | exact hco.1)) | exact (pc5_is (by omega)).1) (by omega) (by decide) (by exact hbh _ (by omega)) ?_
      refine z_al0 (pc' := 51) 32 rfl rfl ?_
      refine z_getf (pc' := 54) 33 rfl rfl f_Pl_28_7 (by first | (rw [pc5_o (by decide)]; first | exact pob_56 | exact pob_57 | exact pob_58 | exact pob_59 | (rw [pob_o (by decide)]; first | assumption | exact hco.1)) | exact (pc5_is (by omega)).1) (by rfl) ?_
      refine z_il3 (pc' := 55) 34 rfl rfl ?_
      refine z_callVX1 (pc' := 58) 35 rfl rfl k_Pl_79 (by exact (pc5_is (by omega)).1) (c_passes5 (isCo_fr hco (fun i hi => pob_o (by omega))) hi (isBk_fr hbk (fun j a b => pob_o (by omega))) hD (by omega) (by rw [un_s]; show (ψ k).1 ≤ 16; omega) (by omega) (by rw [un_s]; show iX S (ψ k).2.2.1 (ψ k).2.2.2.1; rw [q2, q3]; exact hx)) (by omega) (Nat.le_refl _) (Nat.le_refl _) rfl rfl (Nat.le_of_ble_eq_true rfl) (fun q55 => ?_)
      rw [un_s, un_un]
      dsimp only
      rw [q1, q2, q3]
      refine z_is4 rfl rfl (pc' := 60) 36 rfl rfl ?_
      refine z_il4 (pc' := 62) 37 rfl rfl ?_
      refine z_al0 (pc' := 63) 38 rfl rfl ?_
      refine z_il1 (pc' := 64) 39 rfl rfl ?_
      refine z_iconst (v := nI 1) (by decide) (pc' := 65) 40 rfl rfl ?_
      first | refine z_iaddN (pc' := 66) 41 rfl rfl ?_ | refine z_iadd (pc' := 66) 41 rfl rfl ?_
      refine z_callV (pc' := 69) 42 rfl rfl k_Pl_96 (by first | (rw [pc5_o (by decide)]; first | exact pob_56 | exact pob_57 | exact pob_58 | exact pob_59 | (rw [pob_o (by decide)]; first | assumption | exact hco.1)) | exact (pc5_is (by omega)).1) (ihd _ _ hf0) (by omega) (Nat.le_refl _) (Nat.le_refl _) rfl rfl (Nat.le_of_ble_eq_true rfl) (fun r66 μ66 h66 => ?_)
      obtain ⟨y0, v9, ψ9, y1, y2, y3, y4⟩ := h66
      subst y0; subst y1
      rw [y3 (Nat.succ_ne_zero k), un_un]
      rw [show ((un f 6 (opF (evn k) (gF S D r (evn k) t) k d (f 6))) 6) = opF (evn k) (gF S D r (evn k) t) k d (f 6) from rfl]
      have hψ2 : ∀ i, i ≤ k → ψ9 i = ψ0 i := fun i hi9 => by rw [y2 i (by omega), un_n (by omega)]; exact hψ i hi9
      dsimp only [Option.toList_some, List.cons_append, List.nil_append]
      first | refine z_iaddN (pc' := 70) 43 rfl rfl ?_ | refine z_iadd (pc' := 70) 43 rfl rfl ?_
      refine z_te (show _ = nI ((gF S D r (evn k) t) d) by rw [hF9]; rfl) ?_
      refine z_is4 rfl rfl (pc' := 72) 44 rfl rfl ?_
      refine z_il1 (pc' := 73) 45 rfl rfl ?_
      refine z_iconst (v := nI 2) (by decide) (pc' := 74) 46 rfl rfl ?_
      refine z_irem (by decide) (pc' := 75) 47 rfl rfl ?_
      rw [pk_rem (by omega) (by decide) (by decide)]
      first | refine z_if_neB (pc' := 78) 48 rfl rfl (tgt := 92) rfl (fun h75 => ?_) (fun h75 => ?_) | refine z_if_neN (pc' := 78) 48 rfl rfl (tgt := 92) rfl (by omega) (fun h75 => ?_) (fun h75 => ?_) | refine z_if_ne (pc' := 78) 48 rfl rfl (tgt := 92) rfl (fun h75 => ?_) (fun h75 => ?_)
      · refine z_il4 (pc' := 94) 56 rfl rfl ?_
        refine z_il2 (pc' := 95) 57 rfl rfl ?_
        first | refine z_icmp_geN (pc' := 98) 58 rfl rfl (tgt := 102) rfl (by omega) (by omega) (fun h95 => ?_) (fun h95 => ?_) | refine z_icmp_ge (pc' := 98) 58 rfl rfl (tgt := 102) rfl (fun h95 => ?_) (fun h95 => ?_)
        · refine z_iconst (v := nI 0) (by decide) (pc' := 103) 61 rfl rfl ?_
          refine z_is5 rfl rfl (pc' := 105) 62 rfl rfl ?_
          refine z_il3 (pc' := 106) 63 rfl rfl ?_
          first | refine z_if_eqB (pc' := 109) 64 rfl rfl (tgt := 114) rfl (fun h106 => ?_) (fun h106 => ?_) | refine z_if_eqN (pc' := 109) 64 rfl rfl (tgt := 114) rfl (by omega) (fun h106 => ?_) (fun h106 => ?_) | refine z_if_eq (pc' := 109) 64 rfl rfl (tgt := 114) rfl (fun h106 => ?_) (fun h106 => ?_)
          · refine z_il4 (pc' := 116) 67 rfl rfl ?_
            refine z_is2 rfl rfl (pc' := 117) 68 rfl rfl ?_
            refine z_al0 (pc' := 118) 69 rfl rfl ?_
            refine z_il1 (pc' := 119) 70 rfl rfl ?_
            first | refine z_if_neB (pc' := 122) 71 rfl rfl (tgt := 126) rfl (fun h119 => ?_) (fun h119 => ?_) | refine z_if_neN (pc' := 122) 71 rfl rfl (tgt := 126) rfl (by omega) (fun h119 => ?_) (fun h119 => ?_) | refine z_if_ne (pc' := 122) 71 rfl rfl (tgt := 126) rfl (fun h119 => ?_) (fun h119 => ?_)
            · refine z_al0 (pc' := 127) 74 rfl rfl ?_
              refine z_getf (pc' := 130) 75 rfl rfl f_Pl_100_7 (by first | (rw [pc5_o (by decide)]; first | exact pob_56 | exact pob_57 | exact pob_58 | exact pob_59 | (rw [pob_o (by decide)]; first | assumption | exact hco.1)) | exact (pc5_is (by omega)).1) (by rfl) ?_
              refine z_te (show _ = opF (evn k) (gF S D r (evn k) t) k d (f 6) from rfl) ?_
              refine z_putf (pc' := 133) 76 rfl rfl f_Pl_100_7 (by first | (rw [pc5_o (by decide)]; first | exact pob_56 | exact pob_57 | exact pob_58 | exact pob_59 | (rw [pob_o (by decide)]; first | assumption | exact hco.1)) | exact (pc5_is (by omega)).1) rfl rfl (by rfl) (by rfl) ?_
              dsimp only [List.set]
              rw [obP_6, pc5_z (by decide), pob_s56]
              first | refine z_inc3N rfl rfl (pc' := 136) 77 rfl rfl ?_ | refine z_inc3 rfl rfl rfl (pc' := 136) 77 rfl rfl ?_
              refine z_goto 78 rfl (tgt := 14) rfl ?_
              refine z_less4 (z_less5 ?_)
              have eb : bst (evn k) (gF S D r (evn k) t) (d + 1) = ((gF S D r (evn k) t) d, d) := bst_T (Or.inl h106)
              have e6 : f 6 = opF (evn k) (gF S D r (evn k) t) k (d + 1) (f 6) := by
                unfold opF
                rw [eb, if_neg (fun y => h119 y.1)]
              rw [show opF (evn k) (gF S D r (evn k) t) k d (f 6) = f 6 from if_neg (fun y => h119 y.1)]
              rw [un_un, e6]
              rw [show nI ((gF S D r (evn k) t) d) = nI (bst (evn k) (gF S D r (evn k) t) (d + 1)).1 by rw [eb]]
              exact l_Pl_gameValue hco hi hbk hD h60 hbh hK hf0 ih hk ht hx hc0 c (d + 1) _ (by omega) hψ2
            · refine z_il3 (pc' := 123) 72 rfl rfl ?_
              refine z_goto 73 rfl (tgt := 130) rfl ?_
              refine z_putf (pc' := 133) 76 rfl rfl f_Pl_100_7 (by first | (rw [pc5_o (by decide)]; first | exact pob_56 | exact pob_57 | exact pob_58 | exact pob_59 | (rw [pob_o (by decide)]; first | assumption | exact hco.1)) | exact (pc5_is (by omega)).1) rfl rfl (by rfl) (by rfl) ?_
              dsimp only [List.set]
              rw [obP_6, pc5_z (by decide), pob_s56]
              first | refine z_inc3N rfl rfl (pc' := 136) 77 rfl rfl ?_ | refine z_inc3 rfl rfl rfl (pc' := 136) 77 rfl rfl ?_
              refine z_goto 78 rfl (tgt := 14) rfl ?_
              refine z_less4 (z_less5 ?_)
              have eb : bst (evn k) (gF S D r (evn k) t) (d + 1) = ((gF S D r (evn k) t) d, d) := bst_T (Or.inl h106)
              have e6 : nI d = opF (evn k) (gF S D r (evn k) t) k (d + 1) (f 6) := by
                unfold opF
                rw [eb, if_pos ⟨h119, Nat.succ_ne_zero d⟩]
              rw [un_un, e6]
              rw [show nI ((gF S D r (evn k) t) d) = nI (bst (evn k) (gF S D r (evn k) t) (d + 1)).1 by rw [eb]]
              exact l_Pl_gameValue hco hi hbk hD h60 hbh hK hf0 ih hk ht hx hc0 c (d + 1) _ (by omega) hψ2
          · refine z_il5 (pc' := 111) 65 rfl rfl ?_
            refine z_if_eq_t 66 rfl (tgt := 133) rfl rfl ?_
            first | refine z_inc3N rfl rfl (pc' := 136) 77 rfl rfl ?_ | refine z_inc3 rfl rfl rfl (pc' := 136) 77 rfl rfl ?_
            refine z_goto 78 rfl (tgt := 14) rfl ?_
            refine z_less4 (z_less5 ?_)
            have eb : bst (evn k) (gF S D r (evn k) t) (d + 1) = bst (evn k) (gF S D r (evn k) t) d := bst_F h106 (by rw [if_neg (by rw [show evn k = false from decide_eq_false h75]; decide)]; omega)
            have e6 : opF (evn k) (gF S D r (evn k) t) k d (f 6) = opF (evn k) (gF S D r (evn k) t) k (d + 1) (f 6) := by
              unfold opF
              rw [eb]
              by_cases z : k = 0
              · rw [if_pos ⟨z, h106⟩, if_pos ⟨z, by omega⟩]
              · rw [if_neg (fun y => z y.1), if_neg (fun y => z y.1)]
            rw [e6, ← eb]
            exact l_Pl_gameValue hco hi hbk hD h60 hbh hK hf0 ih hk ht hx hc0 c (d + 1) _ (by omega) hψ2
        · refine z_iconst (v := nI 1) (by decide) (pc' := 99) 59 rfl rfl ?_
          refine z_goto 60 rfl (tgt := 103) rfl ?_
          refine z_is5 rfl rfl (pc' := 105) 62 rfl rfl ?_
          refine z_il3 (pc' := 106) 63 rfl rfl ?_
          first | refine z_if_eqB (pc' := 109) 64 rfl rfl (tgt := 114) rfl (fun h106 => ?_) (fun h106 => ?_) | refine z_if_eqN (pc' := 109) 64 rfl rfl (tgt := 114) rfl (by omega) (fun h106 => ?_) (fun h106 => ?_) | refine z_if_eq (pc' := 109) 64 rfl rfl (tgt := 114) rfl (fun h106 => ?_) (fun h106 => ?_)
          · refine z_il4 (pc' := 116) 67 rfl rfl ?_
            refine z_is2 rfl rfl (pc' := 117) 68 rfl rfl ?_
            refine z_al0 (pc' := 118) 69 rfl rfl ?_
            refine z_il1 (pc' := 119) 70 rfl rfl ?_
            first | refine z_if_neB (pc' := 122) 71 rfl rfl (tgt := 126) rfl (fun h119 => ?_) (fun h119 => ?_) | refine z_if_neN (pc' := 122) 71 rfl rfl (tgt := 126) rfl (by omega) (fun h119 => ?_) (fun h119 => ?_) | refine z_if_ne (pc' := 122) 71 rfl rfl (tgt := 126) rfl (fun h119 => ?_) (fun h119 => ?_)
            · refine z_al0 (pc' := 127) 74 rfl rfl ?_
              refine z_getf (pc' := 130) 75 rfl rfl f_Pl_100_7 (by first | (rw [pc5_o (by decide)]; first | exact pob_56 | exact pob_57 | exact pob_58 | exact pob_59 | (rw [pob_o (by decide)]; first | assumption | exact hco.1)) | exact (pc5_is (by omega)).1) (by rfl) ?_
              refine z_te (show _ = opF (evn k) (gF S D r (evn k) t) k d (f 6) from rfl) ?_
              refine z_putf (pc' := 133) 76 rfl rfl f_Pl_100_7 (by first | (rw [pc5_o (by decide)]; first | exact pob_56 | exact pob_57 | exact pob_58 | exact pob_59 | (rw [pob_o (by decide)]; first | assumption | exact hco.1)) | exact (pc5_is (by omega)).1) rfl rfl (by rfl) (by rfl) ?_
              dsimp only [List.set]
              rw [obP_6, pc5_z (by decide), pob_s56]
              first | refine z_inc3N rfl rfl (pc' := 136) 77 rfl rfl ?_ | refine z_inc3 rfl rfl rfl (pc' := 136) 77 rfl rfl ?_
              refine z_goto 78 rfl (tgt := 14) rfl ?_
              refine z_less4 (z_less5 ?_)
              have eb : bst (evn k) (gF S D r (evn k) t) (d + 1) = ((gF S D r (evn k) t) d, d) := bst_T (Or.inl h106)
              have e6 : f 6 = opF (evn k) (gF S D r (evn k) t) k (d + 1) (f 6) := by
                unfold opF
                rw [eb, if_neg (fun y => h119 y.1)]
              rw [show opF (evn k) (gF S D r (evn k) t) k d (f 6) = f 6 from if_neg (fun y => h119 y.1)]
              rw [un_un, e6]
              rw [show nI ((gF S D r (evn k) t) d) = nI (bst (evn k) (gF S D r (evn k) t) (d + 1)).1 by rw [eb]]
              exact l_Pl_gameValue hco hi hbk hD h60 hbh hK hf0 ih hk ht hx hc0 c (d + 1) _ (by omega) hψ2
            · refine z_il3 (pc' := 123) 72 rfl rfl ?_
              refine z_goto 73 rfl (tgt := 130) rfl ?_
              refine z_putf (pc' := 133) 76 rfl rfl f_Pl_100_7 (by first | (rw [pc5_o (by decide)]; first | exact pob_56 | exact pob_57 | exact pob_58 | exact pob_59 | (rw [pob_o (by decide)]; first | assumption | exact hco.1)) | exact (pc5_is (by omega)).1) rfl rfl (by rfl) (by rfl) ?_
              dsimp only [List.set]
              rw [obP_6, pc5_z (by decide), pob_s56]
              first | refine z_inc3N rfl rfl (pc' := 136) 77 rfl rfl ?_ | refine z_inc3 rfl rfl rfl (pc' := 136) 77 rfl rfl ?_
              refine z_goto 78 rfl (tgt := 14) rfl ?_
              refine z_less4 (z_less5 ?_)
              have eb : bst (evn k) (gF S D r (evn k) t) (d + 1) = ((gF S D r (evn k) t) d, d) := bst_T (Or.inl h106)
              have e6 : nI d = opF (evn k) (gF S D r (evn k) t) k (d + 1) (f 6) := by
                unfold opF
                rw [eb, if_pos ⟨h119, Nat.succ_ne_zero d⟩]
              rw [un_un, e6]
              rw [show nI ((gF S D r (evn k) t) d) = nI (bst (evn k) (gF S D r (evn k) t) (d + 1)).1 by rw [eb]]
              exact l_Pl_gameValue hco hi hbk hD h60 hbh hK hf0 ih hk ht hx hc0 c (d + 1) _ (by omega) hψ2
          · refine z_il5 (pc' := 111) 65 rfl rfl ?_
            refine z_if_eq_f (pc' := 114) 66 rfl rfl (tgt := 133) rfl (by decide) ?_
            refine z_il4 (pc' := 116) 67 rfl rfl ?_
            refine z_is2 rfl rfl (pc' := 117) 68 rfl rfl ?_
            refine z_al0 (pc' := 118) 69 rfl rfl ?_
            refine z_il1 (pc' := 119) 70 rfl rfl ?_
            first | refine z_if_neB (pc' := 122) 71 rfl rfl (tgt := 126) rfl (fun h119 => ?_) (fun h119 => ?_) | refine z_if_neN (pc' := 122) 71 rfl rfl (tgt := 126) rfl (by omega) (fun h119 => ?_) (fun h119 => ?_) | refine z_if_ne (pc' := 122) 71 rfl rfl (tgt := 126) rfl (fun h119 => ?_) (fun h119 => ?_)
            · refine z_al0 (pc' := 127) 74 rfl rfl ?_
              refine z_getf (pc' := 130) 75 rfl rfl f_Pl_100_7 (by first | (rw [pc5_o (by decide)]; first | exact pob_56 | exact pob_57 | exact pob_58 | exact pob_59 | (rw [pob_o (by decide)]; first | assumption | exact hco.1)) | exact (pc5_is (by omega)).1) (by rfl) ?_
              refine z_te (show _ = opF (evn k) (gF S D r (evn k) t) k d (f 6) from rfl) ?_
              refine z_putf (pc' := 133) 76 rfl rfl f_Pl_100_7 (by first | (rw [pc5_o (by decide)]; first | exact pob_56 | exact pob_57 | exact pob_58 | exact pob_59 | (rw [pob_o (by decide)]; first | assumption | exact hco.1)) | exact (pc5_is (by omega)).1) rfl rfl (by rfl) (by rfl) ?_
              dsimp only [List.set]
              rw [obP_6, pc5_z (by decide), pob_s56]
              first | refine z_inc3N rfl rfl (pc' := 136) 77 rfl rfl ?_ | refine z_inc3 rfl rfl rfl (pc' := 136) 77 rfl rfl ?_
              refine z_goto 78 rfl (tgt := 14) rfl ?_
              refine z_less4 (z_less5 ?_)
              have eb : bst (evn k) (gF S D r (evn k) t) (d + 1) = ((gF S D r (evn k) t) d, d) := bst_T (Or.inr (by rw [if_neg (by rw [show evn k = false from decide_eq_false h75]; decide)]; omega))
              have e6 : f 6 = opF (evn k) (gF S D r (evn k) t) k (d + 1) (f 6) := by
                unfold opF
                rw [eb, if_neg (fun y => h119 y.1)]
              rw [show opF (evn k) (gF S D r (evn k) t) k d (f 6) = f 6 from if_neg (fun y => h119 y.1)]
              rw [un_un, e6]
              rw [show nI ((gF S D r (evn k) t) d) = nI (bst (evn k) (gF S D r (evn k) t) (d + 1)).1 by rw [eb]]
              exact l_Pl_gameValue hco hi hbk hD h60 hbh hK hf0 ih hk ht hx hc0 c (d + 1) _ (by omega) hψ2
            · refine z_il3 (pc' := 123) 72 rfl rfl ?_
              refine z_goto 73 rfl (tgt := 130) rfl ?_
              refine z_putf (pc' := 133) 76 rfl rfl f_Pl_100_7 (by first | (rw [pc5_o (by decide)]; first | exact pob_56 | exact pob_57 | exact pob_58 | exact pob_59 | (rw [pob_o (by decide)]; first | assumption | exact hco.1)) | exact (pc5_is (by omega)).1) rfl rfl (by rfl) (by rfl) ?_
              dsimp only [List.set]
              rw [obP_6, pc5_z (by decide), pob_s56]
              first | refine z_inc3N rfl rfl (pc' := 136) 77 rfl rfl ?_ | refine z_inc3 rfl rfl rfl (pc' := 136) 77 rfl rfl ?_
              refine z_goto 78 rfl (tgt := 14) rfl ?_
              refine z_less4 (z_less5 ?_)
              have eb : bst (evn k) (gF S D r (evn k) t) (d + 1) = ((gF S D r (evn k) t) d, d) := bst_T (Or.inr (by rw [if_neg (by rw [show evn k = false from decide_eq_false h75]; decide)]; omega))
              have e6 : nI d = opF (evn k) (gF S D r (evn k) t) k (d + 1) (f 6) := by
                unfold opF
                rw [eb, if_pos ⟨h119, Nat.succ_ne_zero d⟩]
              rw [un_un, e6]
              rw [show nI ((gF S D r (evn k) t) d) = nI (bst (evn k) (gF S D r (evn k) t) (d + 1)).1 by rw [eb]]
              exact l_Pl_gameValue hco hi hbk hD h60 hbh hK hf0 ih hk ht hx hc0 c (d + 1) _ (by omega) hψ2
      · refine z_il4 (pc' := 80) 49 rfl rfl ?_
        refine z_il2 (pc' := 81) 50 rfl rfl ?_
        first | refine z_icmp_leN (pc' := 84) 51 rfl rfl (tgt := 88) rfl (by omega) (by omega) (fun h81 => ?_) (fun h81 => ?_) | refine z_icmp_le (pc' := 84) 51 rfl rfl (tgt := 88) rfl (fun h81 => ?_) (fun h81 => ?_)
        · refine z_iconst (v := nI 0) (by decide) (pc' := 89) 54 rfl rfl ?_
          refine z_goto 55 rfl (tgt := 103) rfl ?_
          refine z_is5 rfl rfl (pc' := 105) 62 rfl rfl ?_
          refine z_il3 (pc' := 106) 63 rfl rfl ?_
          first | refine z_if_eqB (pc' := 109) 64 rfl rfl (tgt := 114) rfl (fun h106 => ?_) (fun h106 => ?_) | refine z_if_eqN (pc' := 109) 64 rfl rfl (tgt := 114) rfl (by omega) (fun h106 => ?_) (fun h106 => ?_) | refine z_if_eq (pc' := 109) 64 rfl rfl (tgt := 114) rfl (fun h106 => ?_) (fun h106 => ?_)
          · refine z_il4 (pc' := 116) 67 rfl rfl ?_
            refine z_is2 rfl rfl (pc' := 117) 68 rfl rfl ?_
            refine z_al0 (pc' := 118) 69 rfl rfl ?_
            refine z_il1 (pc' := 119) 70 rfl rfl ?_
            first | refine z_if_neB (pc' := 122) 71 rfl rfl (tgt := 126) rfl (fun h119 => ?_) (fun h119 => ?_) | refine z_if_neN (pc' := 122) 71 rfl rfl (tgt := 126) rfl (by omega) (fun h119 => ?_) (fun h119 => ?_) | refine z_if_ne (pc' := 122) 71 rfl rfl (tgt := 126) rfl (fun h119 => ?_) (fun h119 => ?_)
            · refine z_al0 (pc' := 127) 74 rfl rfl ?_
              refine z_getf (pc' := 130) 75 rfl rfl f_Pl_100_7 (by first | (rw [pc5_o (by decide)]; first | exact pob_56 | exact pob_57 | exact pob_58 | exact pob_59 | (rw [pob_o (by decide)]; first | assumption | exact hco.1)) | exact (pc5_is (by omega)).1) (by rfl) ?_
              refine z_te (show _ = opF (evn k) (gF S D r (evn k) t) k d (f 6) from rfl) ?_
              refine z_putf (pc' := 133) 76 rfl rfl f_Pl_100_7 (by first | (rw [pc5_o (by decide)]; first | exact pob_56 | exact pob_57 | exact pob_58 | exact pob_59 | (rw [pob_o (by decide)]; first | assumption | exact hco.1)) | exact (pc5_is (by omega)).1) rfl rfl (by rfl) (by rfl) ?_
              dsimp only [List.set]
              rw [obP_6, pc5_z (by decide), pob_s56]
              first | refine z_inc3N rfl rfl (pc' := 136) 77 rfl rfl ?_ | refine z_inc3 rfl rfl rfl (pc' := 136) 77 rfl rfl ?_
              refine z_goto 78 rfl (tgt := 14) rfl ?_
              refine z_less4 (z_less5 ?_)
              have eb : bst (evn k) (gF S D r (evn k) t) (d + 1) = ((gF S D r (evn k) t) d, d) := bst_T (Or.inl h106)
              have e6 : f 6 = opF (evn k) (gF S D r (evn k) t) k (d + 1) (f 6) := by
                unfold opF
                rw [eb, if_neg (fun y => h119 y.1)]
              rw [show opF (evn k) (gF S D r (evn k) t) k d (f 6) = f 6 from if_neg (fun y => h119 y.1)]
              rw [un_un, e6]
              rw [show nI ((gF S D r (evn k) t) d) = nI (bst (evn k) (gF S D r (evn k) t) (d + 1)).1 by rw [eb]]
              exact l_Pl_gameValue hco hi hbk hD h60 hbh hK hf0 ih hk ht hx hc0 c (d + 1) _ (by omega) hψ2
            · refine z_il3 (pc' := 123) 72 rfl rfl ?_
              refine z_goto 73 rfl (tgt := 130) rfl ?_
              refine z_putf (pc' := 133) 76 rfl rfl f_Pl_100_7 (by first | (rw [pc5_o (by decide)]; first | exact pob_56 | exact pob_57 | exact pob_58 | exact pob_59 | (rw [pob_o (by decide)]; first | assumption | exact hco.1)) | exact (pc5_is (by omega)).1) rfl rfl (by rfl) (by rfl) ?_
              dsimp only [List.set]
              rw [obP_6, pc5_z (by decide), pob_s56]
              first | refine z_inc3N rfl rfl (pc' := 136) 77 rfl rfl ?_ | refine z_inc3 rfl rfl rfl (pc' := 136) 77 rfl rfl ?_
              refine z_goto 78 rfl (tgt := 14) rfl ?_
              refine z_less4 (z_less5 ?_)
              have eb : bst (evn k) (gF S D r (evn k) t) (d + 1) = ((gF S D r (evn k) t) d, d) := bst_T (Or.inl h106)
              have e6 : nI d = opF (evn k) (gF S D r (evn k) t) k (d + 1) (f 6) := by
                unfold opF
                rw [eb, if_pos ⟨h119, Nat.succ_ne_zero d⟩]
              rw [un_un, e6]
              rw [show nI ((gF S D r (evn k) t) d) = nI (bst (evn k) (gF S D r (evn k) t) (d + 1)).1 by rw [eb]]
              exact l_Pl_gameValue hco hi hbk hD h60 hbh hK hf0 ih hk ht hx hc0 c (d + 1) _ (by omega) hψ2
          · refine z_il5 (pc' := 111) 65 rfl rfl ?_
            refine z_if_eq_t 66 rfl (tgt := 133) rfl rfl ?_
            first | refine z_inc3N rfl rfl (pc' := 136) 77 rfl rfl ?_ | refine z_inc3 rfl rfl rfl (pc' := 136) 77 rfl rfl ?_
            refine z_goto 78 rfl (tgt := 14) rfl ?_
            refine z_less4 (z_less5 ?_)
            have eb : bst (evn k) (gF S D r (evn k) t) (d + 1) = bst (evn k) (gF S D r (evn k) t) d := bst_F h106 (by rw [if_pos (show evn k = true from decide_eq_true h75)]; omega)
            have e6 : opF (evn k) (gF S D r (evn k) t) k d (f 6) = opF (evn k) (gF S D r (evn k) t) k (d + 1) (f 6) := by
              unfold opF
              rw [eb]
              by_cases z : k = 0
              · rw [if_pos ⟨z, h106⟩, if_pos ⟨z, by omega⟩]
              · rw [if_neg (fun y => z y.1), if_neg (fun y => z y.1)]
            rw [e6, ← eb]
            exact l_Pl_gameValue hco hi hbk hD h60 hbh hK hf0 ih hk ht hx hc0 c (d + 1) _ (by omega) hψ2
        · refine z_iconst (v := nI 1) (by decide) (pc' := 85) 52 rfl rfl ?_
          refine z_goto 53 rfl (tgt := 103) rfl ?_
          refine z_is5 rfl rfl (pc' := 105) 62 rfl rfl ?_
          refine z_il3 (pc' := 106) 63 rfl rfl ?_
          first | refine z_if_eqB (pc' := 109) 64 rfl rfl (tgt := 114) rfl (fun h106 => ?_) (fun h106 => ?_) | refine z_if_eqN (pc' := 109) 64 rfl rfl (tgt := 114) rfl (by omega) (fun h106 => ?_) (fun h106 => ?_) | refine z_if_eq (pc' := 109) 64 rfl rfl (tgt := 114) rfl (fun h106 => ?_) (fun h106 => ?_)
          · refine z_il4 (pc' := 116) 67 rfl rfl ?_
            refine z_is2 rfl rfl (pc' := 117) 68 rfl rfl ?_
            refine z_al0 (pc' := 118) 69 rfl rfl ?_
            refine z_il1 (pc' := 119) 70 rfl rfl ?_
            first | refine z_if_neB (pc' := 122) 71 rfl rfl (tgt := 126) rfl (fun h119 => ?_) (fun h119 => ?_) | refine z_if_neN (pc' := 122) 71 rfl rfl (tgt := 126) rfl (by omega) (fun h119 => ?_) (fun h119 => ?_) | refine z_if_ne (pc' := 122) 71 rfl rfl (tgt := 126) rfl (fun h119 => ?_) (fun h119 => ?_)
            · refine z_al0 (pc' := 127) 74 rfl rfl ?_
              refine z_getf (pc' := 130) 75 rfl rfl f_Pl_100_7 (by first | (rw [pc5_o (by decide)]; first | exact pob_56 | exact pob_57 | exact pob_58 | exact pob_59 | (rw [pob_o (by decide)]; first | assumption | exact hco.1)) | exact (pc5_is (by omega)).1) (by rfl) ?_
              refine z_te (show _ = opF (evn k) (gF S D r (evn k) t) k d (f 6) from rfl) ?_
              refine z_putf (pc' := 133) 76 rfl rfl f_Pl_100_7 (by first | (rw [pc5_o (by decide)]; first | exact pob_56 | exact pob_57 | exact pob_58 | exact pob_59 | (rw [pob_o (by decide)]; first | assumption | exact hco.1)) | exact (pc5_is (by omega)).1) rfl rfl (by rfl) (by rfl) ?_
              dsimp only [List.set]
              rw [obP_6, pc5_z (by decide), pob_s56]
              first | refine z_inc3N rfl rfl (pc' := 136) 77 rfl rfl ?_ | refine z_inc3 rfl rfl rfl (pc' := 136) 77 rfl rfl ?_
              refine z_goto 78 rfl (tgt := 14) rfl ?_
              refine z_less4 (z_less5 ?_)
              have eb : bst (evn k) (gF S D r (evn k) t) (d + 1) = ((gF S D r (evn k) t) d, d) := bst_T (Or.inl h106)
              have e6 : f 6 = opF (evn k) (gF S D r (evn k) t) k (d + 1) (f 6) := by
                unfold opF
                rw [eb, if_neg (fun y => h119 y.1)]
              rw [show opF (evn k) (gF S D r (evn k) t) k d (f 6) = f 6 from if_neg (fun y => h119 y.1)]
              rw [un_un, e6]
              rw [show nI ((gF S D r (evn k) t) d) = nI (bst (evn k) (gF S D r (evn k) t) (d + 1)).1 by rw [eb]]
              exact l_Pl_gameValue hco hi hbk hD h60 hbh hK hf0 ih hk ht hx hc0 c (d + 1) _ (by omega) hψ2
            · refine z_il3 (pc' := 123) 72 rfl rfl ?_
              refine z_goto 73 rfl (tgt := 130) rfl ?_
              refine z_putf (pc' := 133) 76 rfl rfl f_Pl_100_7 (by first | (rw [pc5_o (by decide)]; first | exact pob_56 | exact pob_57 | exact pob_58 | exact pob_59 | (rw [pob_o (by decide)]; first | assumption | exact hco.1)) | exact (pc5_is (by omega)).1) rfl rfl (by rfl) (by rfl) ?_
              dsimp only [List.set]
              rw [obP_6, pc5_z (by decide), pob_s56]
              first | refine z_inc3N rfl rfl (pc' := 136) 77 rfl rfl ?_ | refine z_inc3 rfl rfl rfl (pc' := 136) 77 rfl rfl ?_
              refine z_goto 78 rfl (tgt := 14) rfl ?_
              refine z_less4 (z_less5 ?_)
              have eb : bst (evn k) (gF S D r (evn k) t) (d + 1) = ((gF S D r (evn k) t) d, d) := bst_T (Or.inl h106)
              have e6 : nI d = opF (evn k) (gF S D r (evn k) t) k (d + 1) (f 6) := by
                unfold opF
                rw [eb, if_pos ⟨h119, Nat.succ_ne_zero d⟩]
              rw [un_un, e6]
              rw [show nI ((gF S D r (evn k) t) d) = nI (bst (evn k) (gF S D r (evn k) t) (d + 1)).1 by rw [eb]]
              exact l_Pl_gameValue hco hi hbk hD h60 hbh hK hf0 ih hk ht hx hc0 c (d + 1) _ (by omega) hψ2
          · refine z_il5 (pc' := 111) 65 rfl rfl ?_
            refine z_if_eq_f (pc' := 114) 66 rfl rfl (tgt := 133) rfl (by decide) ?_
            refine z_il4 (pc' := 116) 67 rfl rfl ?_
            refine z_is2 rfl rfl (pc' := 117) 68 rfl rfl ?_
            refine z_al0 (pc' := 118) 69 rfl rfl ?_
            refine z_il1 (pc' := 119) 70 rfl rfl ?_
            first | refine z_if_neB (pc' := 122) 71 rfl rfl (tgt := 126) rfl (fun h119 => ?_) (fun h119 => ?_) | refine z_if_neN (pc' := 122) 71 rfl rfl (tgt := 126) rfl (by omega) (fun h119 => ?_) (fun h119 => ?_) | refine z_if_ne (pc' := 122) 71 rfl rfl (tgt := 126) rfl (fun h119 => ?_) (fun h119 => ?_)
            · refine z_al0 (pc' := 127) 74 rfl rfl ?_
              refine z_getf (pc' := 130) 75 rfl rfl f_Pl_100_7 (by first | (rw [pc5_o (by decide)]; first | exact pob_56 | exact pob_57 | exact pob_58 | exact pob_59 | (rw [pob_o (by decide)]; first | assumption | exact hco.1)) | exact (pc5_is (by omega)).1) (by rfl) ?_
              refine z_te (show _ = opF (evn k) (gF S D r (evn k) t) k d (f 6) from rfl) ?_
              refine z_putf (pc' := 133) 76 rfl rfl f_Pl_100_7 (by first | (rw [pc5_o (by decide)]; first | exact pob_56 | exact pob_57 | exact pob_58 | exact pob_59 | (rw [pob_o (by decide)]; first | assumption | exact hco.1)) | exact (pc5_is (by omega)).1) rfl rfl (by rfl) (by rfl) ?_
              dsimp only [List.set]
              rw [obP_6, pc5_z (by decide), pob_s56]
              first | refine z_inc3N rfl rfl (pc' := 136) 77 rfl rfl ?_ | refine z_inc3 rfl rfl rfl (pc' := 136) 77 rfl rfl ?_
              refine z_goto 78 rfl (tgt := 14) rfl ?_
              refine z_less4 (z_less5 ?_)
              have eb : bst (evn k) (gF S D r (evn k) t) (d + 1) = ((gF S D r (evn k) t) d, d) := bst_T (Or.inr (by rw [if_pos (show evn k = true from decide_eq_true h75)]; omega))
              have e6 : f 6 = opF (evn k) (gF S D r (evn k) t) k (d + 1) (f 6) := by
                unfold opF
                rw [eb, if_neg (fun y => h119 y.1)]
              rw [show opF (evn k) (gF S D r (evn k) t) k d (f 6) = f 6 from if_neg (fun y => h119 y.1)]
              rw [un_un, e6]
              rw [show nI ((gF S D r (evn k) t) d) = nI (bst (evn k) (gF S D r (evn k) t) (d + 1)).1 by rw [eb]]
              exact l_Pl_gameValue hco hi hbk hD h60 hbh hK hf0 ih hk ht hx hc0 c (d + 1) _ (by omega) hψ2
            · refine z_il3 (pc' := 123) 72 rfl rfl ?_
              refine z_goto 73 rfl (tgt := 130) rfl ?_
              refine z_putf (pc' := 133) 76 rfl rfl f_Pl_100_7 (by first | (rw [pc5_o (by decide)]; first | exact pob_56 | exact pob_57 | exact pob_58 | exact pob_59 | (rw [pob_o (by decide)]; first | assumption | exact hco.1)) | exact (pc5_is (by omega)).1) rfl rfl (by rfl) (by rfl) ?_
              dsimp only [List.set]
              rw [obP_6, pc5_z (by decide), pob_s56]
              first | refine z_inc3N rfl rfl (pc' := 136) 77 rfl rfl ?_ | refine z_inc3 rfl rfl rfl (pc' := 136) 77 rfl rfl ?_
              refine z_goto 78 rfl (tgt := 14) rfl ?_
              refine z_less4 (z_less5 ?_)
              have eb : bst (evn k) (gF S D r (evn k) t) (d + 1) = ((gF S D r (evn k) t) d, d) := bst_T (Or.inr (by rw [if_pos (show evn k = true from decide_eq_true h75)]; omega))
              have e6 : nI d = opF (evn k) (gF S D r (evn k) t) k (d + 1) (f 6) := by
                unfold opF
                rw [eb, if_pos ⟨h119, Nat.succ_ne_zero d⟩]
              rw [un_un, e6]
              rw [show nI ((gF S D r (evn k) t) d) = nI (bst (evn k) (gF S D r (evn k) t) (d + 1)).1 by rw [eb]]
              exact l_Pl_gameValue hco hi hbk hD h60 hbh hK hf0 ih hk ht hx hc0 c (d + 1) _ (by omega) hψ2
set_option maxHeartbeats 4000000 in
set_option maxRecDepth 100000 in
theorem c_Pl_gameValue {G : zG} {n u : Nat} {ν : Nat → va_E} {S : Nat → Nat → Nat} {sc ch : Int32} {bh : Nat → Option Nat} {β : Nat → Nat → Nat} {its : Nat → zI} {D : zD6} {ba ac rw : Nat → Int32} (hco : isCo ν S sc ch) (hi : iS S) (hbk : isBk ν 17 β) (hD : dzB β its D) (h60 : ν 60 = .inl (3, 5, .inr (.inr (.inr (.inr bh))))) (hbh : ∀ j, j < 5 → bh j = some (61 + 4 * j)) {K : Nat} (hK : K ≤ 4) : ∀ (r : Nat), ∀ (k : Nat) (t : zT3) (f : Nat → Int32) (ψ : Nat → zC5), f 0 = nI K → k + r = K → t.1 + r ≤ 16 → iX S t.2.1 t.2.2 → atC (ψ k) t → zMet G (5 + r) M_Pl_gameValue [.ref 56, .int (nI k)] n u (pc5 (pob ν f (.ref 5) ba rw ac) ψ) n u (gaP ν S D r k t f ba rw ac ψ)
  | 0, k, t, f, ψ, hf0, hk, ht, hx, hc => by
    refine z_start (lv := [.ref 56, .int (nI k), .retAddr 0, .retAddr 0, .retAddr 0, .retAddr 0]) K_Pl_gameValue rfl rfl (Nat.le_refl _) (Nat.le_refl _) (Nat.le_of_ble_eq_true rfl) rfl ?_
    refine z_il1 (pc' := 1) 0 rfl rfl ?_
    refine z_al0 (pc' := 2) 1 rfl rfl ?_
    refine z_getf (pc' := 5) 2 rfl rfl f_Pl_45_7 (by first | (rw [pc5_o (by decide)]; first | exact pob_56 | exact pob_57 | exact pob_58 | exact pob_59 | (rw [pob_o (by decide)]; first | assumption | exact hco.1)) | exact (pc5_is (by omega)).1) (by rfl) ?_
    rw [hf0]
    first | refine z_icmp_ltN (pc' := 8) 3 rfl rfl (tgt := 10) rfl (by omega) (by omega) (fun h5 => ?_) (fun h5 => ?_) | refine z_icmp_lt (pc' := 8) 3 rfl rfl (tgt := 10) rfl (fun h5 => ?_) (fun h5 => ?_)
    · exfalso; omega
    · refine z_iconst (v := nI 0) (by decide) (pc' := 9) 4 rfl rfl ?_
      exact z_ireturn 5 rfl rfl (by first | rfl | exact zbo_nar) rfl rfl (by exact ⟨rfl, f 6, ψ, by rw [un_id], fun _ _ => rfl, fun _ => rfl, fun _ z => absurd rfl z⟩)
  | r + 1, k, t, f, ψ, hf0, hk, ht, hx, hc => by
    refine z_start (lv := [.ref 56, .int (nI k), .retAddr 0, .retAddr 0, .retAddr 0, .retAddr 0]) K_Pl_gameValue rfl rfl (Nat.le_refl _) (Nat.le_refl _) (Nat.le_of_ble_eq_true rfl) rfl ?_
    refine z_il1 (pc' := 1) 0 rfl rfl ?_
    refine z_al0 (pc' := 2) 1 rfl rfl ?_
    refine z_getf (pc' := 5) 2 rfl rfl f_Pl_45_7 (by first | (rw [pc5_o (by decide)]; first | exact pob_56 | exact pob_57 | exact pob_58 | exact pob_59 | (rw [pob_o (by decide)]; first | assumption | exact hco.1)) | exact (pc5_is (by omega)).1) (by rfl) ?_
    rw [hf0]
    first | refine z_icmp_ltN (pc' := 8) 3 rfl rfl (tgt := 10) rfl (by omega) (by omega) (fun h5 => ?_) (fun h5 => ?_) | refine z_icmp_lt (pc' := 8) 3 rfl rfl (tgt := 10) rfl (fun h5 => ?_) (fun h5 => ?_)
    · refine z_iconst (v := nI 0) (by decide) (pc' := 11) 6 rfl rfl ?_
      refine z_is2 rfl rfl (pc' := 12) 7 rfl rfl ?_
      refine z_iconst (v := nI 0) (by decide) (pc' := 13) 8 rfl rfl ?_
      refine z_is3 rfl rfl (pc' := 14) 9 rfl rfl ?_
      refine z_mu (show _ = pc5 (pob ν (un f 6 (opF (evn k) (gF S D r (evn k) t) k 0 (f 6))) (.ref 5) ba rw ac) ψ by rw [show opF (evn k) (gF S D r (evn k) t) k 0 (f 6) = f 6 from if_neg (fun z => z.2 rfl), un_id]) ?_
      exact l_Pl_gameValue hco hi hbk hD h60 hbh hK hf0 (fun k t f ψ => c_Pl_gameValue hco hi hbk hD h60 hbh hK r k t f ψ) hk ht hx hc (S 0 0 + 1) 0 ψ (by omega) (fun _ _ => rfl)
    · exfalso; omega
set_option maxHeartbeats 4000000 in
set_option maxRecDepth 100000 in
theorem c_Pl_gameFrom {G : zG} {n u : Nat} {ν : Nat → va_E} {S : Nat → Nat → Nat} {sc ch : Int32} {bh : Nat → Option Nat} {β : Nat → Nat → Nat} {its : Nat → zI} {D : zD6} {mo cs : Nat} {pr fa q13 : Nat → Nat} {f ba ac rw : Nat → Int32} {cr : Value} {ψ : Nat → zC5} (hco : isCo ν S sc ch) (hi : iS S) (hbk : isBk ν 17 β) (hD : dzB β its D) (h60 : ν 60 = .inl (3, 5, .inr (.inr (.inr (.inr bh))))) (hbh : ∀ j, j < 5 → bh j = some (61 + 4 * j)) (h13 : isCr ν 13 mo cs pr fa q13) {N : Nat} (hN : N ≤ 4) (hm : mo ≤ S 0 3) (hx : iX S pr fa) : zMet G 10 M_Pl_gameFrom [.ref 56, .ref 5, .int (nI N)] n u (pc5 (pob ν f cr ba rw ac) ψ) n u (fun r0 μ' => r0 = some (.int (nI (gv S D (min N (S 0 3 - mo)) true (mo, pr, fa)))) ∧ ∃ (f' : Nat → Int32) (ψ' : Nat → zC5), μ' = pc5 (pob ν f' (.ref 5) ba rw ac) ψ' ∧ f' 7 = f 7 ∧ (min N (S 0 3 - mo) ≠ 0 → f' 6 = nI (bst true (gF S D (min N (S 0 3 - mo) - 1) true (mo, pr, fa)) (S 0 0 + 1)).2)) := by
  have hi3 := hi.2.2.2.2.1
  refine z_start (lv := [.ref 56, .ref 5, .int (nI N)]) K_Pl_gameFrom rfl rfl (Nat.le_refl _) (Nat.le_refl _) (Nat.le_of_ble_eq_true rfl) rfl ?_
  refine z_al0 (pc' := 1) 0 rfl rfl ?_
  refine z_al1 (pc' := 2) 1 rfl rfl ?_
  refine z_il2 (pc' := 3) 2 rfl rfl ?_
  refine z_callV0 (pc' := 6) 3 rfl rfl k_Pl_52 (by first | (rw [pc5_o (by decide)]; first | exact pob_56 | exact pob_57 | exact pob_58 | exact pob_59 | (rw [pob_o (by decide)]; first | assumption | exact hco.1)) | exact (pc5_is (by omega)).1) (c_Pl_begin hco hi hbk hD h60 hbh h13 (by omega) hm) (by omega) (Nat.le_refl _) (Nat.le_refl _) rfl rfl (Nat.le_of_ble_eq_true rfl) ?_
  refine z_al0 (pc' := 7) 4 rfl rfl ?_
  refine z_iconst (v := nI 0) (by decide) (pc' := 8) 5 rfl rfl ?_
  refine z_callV (pc' := 11) 6 rfl rfl k_Pl_96 (by first | (rw [pc5_o (by decide)]; first | exact pob_56 | exact pob_57 | exact pob_58 | exact pob_59 | (rw [pob_o (by decide)]; first | assumption | exact hco.1)) | exact (pc5_is (by omega)).1) (c_Pl_gameValue (K := min N (S 0 3 - mo)) hco hi hbk hD h60 hbh (by omega) (min N (S 0 3 - mo)) 0 (mo, pr, fa) (un f 0 (nI (min N (S 0 3 - mo)))) _ rfl (by omega) (by show mo + _ ≤ 16; omega) hx ⟨rfl, rfl, rfl⟩) (by omega) (Nat.le_refl _) (Nat.le_refl _) rfl rfl (Nat.le_of_ble_eq_true rfl) (fun r8 μ8 h8 => ?_)
  obtain ⟨y0, v9, ψ9, y1, y2, y3, y4⟩ := h8
  subst y0; subst y1
  dsimp only [Option.toList_some, List.cons_append, List.nil_append]
  exact z_ireturn 7 rfl rfl (by first | rfl | exact zbo_nar) rfl rfl (by exact ⟨rfl, _, ψ9, rfl, rfl, fun z => y4 rfl z⟩)
set_option maxHeartbeats 4000000 in
set_option maxRecDepth 100000 in
theorem c_Wb_game {G : zG} {n u : Nat} {μ : Nat → va_E} {κ : zκ} {kp : Int32} {ac : Value} (h : cst μ κ) (hob : isOb μ kp ac) {R : Nat} {rw : Nat → Int32} (hpl : isPl μ R rw) (x : Int32) :
    zMet G 11 M_Wb_game [.ref 4, .int x] n u μ n u (cKp μ κ (f_game κ x) R rw) := by
  obtain ⟨S, mo, pr, fa, sc, ch, rc, D⟩ := κ
  have hst := h
  obtain ⟨h1, ⟨cs, q, h2⟩, ⟨β, its, h3, h3a, h3b⟩, ⟨c23, h4⟩, h5⟩ := h
  have hk5 := h5
  obtain ⟨hi, hx, hmo, hrc⟩ := h5
  have hi0 := hi.1
  have hi1 := hi.2.1
  have hi2 := hi.2.2.1
  have hi3 := hi.2.2.2.2.1
  obtain ⟨f, ba, ac, cr, ψ, bh, h56, h57, h58, h59, h60, hbh, h5c, hf7, hR⟩ := hpl
  have hm16 : mo ≤ 16 := by omega
  have hmo0 : mo ≤ S 0 3 := hmo
  refine z_start (lv := [.ref 4, .int x]) K_Wb_game rfl rfl (Nat.le_refl _) (Nat.le_refl _) (Nat.le_of_ble_eq_true rfl) rfl ?_
  have h13 := h2
  have h13a := h2.1
  have hco := h1
  unfold isOb at hob
  refine z_mu (pl_id h56 h57 h58 h59 h5c).symm ?_
  refine z_il1 (pc' := 1) 0 rfl rfl ?_
  refine z_iconst (v := nI 1) (by decide) (pc' := 2) 1 rfl rfl ?_
  refine z_iconst (v := nI 4) (by decide) (pc' := 3) 2 rfl rfl ?_
  refine z_callS1 (pc' := 6) 3 rfl rfl k_Wb_72 (c_Wb_within _ _ _) (by decide) (Nat.le_refl _) (Nat.le_refl _) rfl rfl (Nat.le_of_ble_eq_true rfl) ?_
  first | refine z_if_neB (pc' := 9) 4 rfl rfl (tgt := 11) rfl (fun h6 => ?_) (fun h6 => ?_) | refine z_if_neN (pc' := 9) 4 rfl rfl (tgt := 11) rfl (by omega) (fun h6 => ?_) (fun h6 => ?_) | refine z_if_ne (pc' := 9) 4 rfl rfl (tgt := 11) rfl (fun h6 => ?_) (fun h6 => ?_)
  · obtain ⟨x1, hx1, hx2, rfl⟩ := z_wi h6 (by decide) (by decide)
    refine z_al0 (pc' := 12) 7 rfl rfl ?_
    refine z_getf (pc' := 15) 8 rfl rfl f_Wb_43_11 (by first | (rw [pc5_o (by decide)]; first | exact pob_56 | exact pob_57 | exact pob_58 | exact pob_59 | (rw [pob_o (by decide)]; first | assumption | exact hco.1)) | exact (pc5_is (by omega)).1) (by rfl) ?_
    refine z_al0 (pc' := 16) 9 rfl rfl ?_
    refine z_getf (pc' := 19) 10 rfl rfl f_Wb_10_11 (by first | (rw [pc5_o (by decide)]; first | exact pob_56 | exact pob_57 | exact pob_58 | exact pob_59 | (rw [pob_o (by decide)]; first | assumption | exact hco.1)) | exact (pc5_is (by omega)).1) (by rfl) ?_
    refine z_il1 (pc' := 20) 11 rfl rfl ?_
    refine z_callV (pc' := 23) 12 rfl rfl k_Wb_235 (by first | (rw [pc5_o (by decide)]; first | exact pob_56 | exact pob_57 | exact pob_58 | exact pob_59 | (rw [pob_o (by decide)]; first | assumption | exact hco.1)) | exact (pc5_is (by omega)).1) (c_Pl_gameFrom h1 hi h3 h3a h60 hbh h13 (by omega) hmo0 hx) (by decide) (Nat.le_refl _) (Nat.le_refl _) rfl rfl (Nat.le_of_ble_eq_true rfl) (fun r20 μ20 h20 => ?_)
    obtain ⟨z0, f8, ψ8, z1, z2, z3⟩ := h20
    subst z0; subst z1
    dsimp only [Option.toList_some, List.cons_append, List.nil_append]
    exact z_ireturn 13 rfl rfl (by first | rfl | exact zbo_nar) rfl rfl (by refine ⟨by rw [f_game, if_pos h6, tN_n (by omega)], isPl_of h60 hbh (z2.trans hf7) hR, fun i hi => by rw [pc5_o (by omega), pob_o (by omega)]⟩)
  · refine z_iconst (v := (-1)) (by decide) (pc' := 10) 5 rfl rfl ?_
    exact z_ireturn 6 rfl rfl (by first | rfl | exact zbo_nar) rfl rfl (by refine ⟨by rw [f_game, if_neg h6], isPl_of h60 hbh hf7 hR, fun i hi => by rw [pc5_o (by omega), pob_o (by omega)]⟩)
set_option maxHeartbeats 4000000 in
set_option maxRecDepth 100000 in
theorem c_Wb_play {G : zG} {n u : Nat} {μ : Nat → va_E} {κ : zκ} {kp : Int32} {ac : Value} (h : cst μ κ) (hob : isOb μ kp ac) {R : Nat} {rw : Nat → Int32} (hpl : isPl μ R rw) (x : Int32) :
    zMet G 11 M_Wb_play [.ref 4, .int x] n u μ n u (cKp μ κ (f_play κ x) R rw) := by
  obtain ⟨S, mo, pr, fa, sc, ch, rc, D⟩ := κ
  have hst := h
  obtain ⟨h1, ⟨cs, q, h2⟩, ⟨β, its, h3, h3a, h3b⟩, ⟨c23, h4⟩, h5⟩ := h
  have hk5 := h5
  obtain ⟨hi, hx, hmo, hrc⟩ := h5
  have hi0 := hi.1
  have hi1 := hi.2.1
  have hi2 := hi.2.2.1
  have hi3 := hi.2.2.2.2.1
  obtain ⟨f, ba, ac, cr, ψ, bh, h56, h57, h58, h59, h60, hbh, h5c, hf7, hR⟩ := hpl
  have hm16 : mo ≤ 16 := by omega
  have hmo0 : mo ≤ S 0 3 := hmo
  refine z_start (lv := [.ref 4, .int x]) K_Wb_play rfl rfl (Nat.le_refl _) (Nat.le_refl _) (Nat.le_of_ble_eq_true rfl) rfl ?_
  have h13 := h2
  have h13a := h2.1
  have hco := h1
  unfold isOb at hob
  refine z_mu (pl_id h56 h57 h58 h59 h5c).symm ?_
  refine z_il1 (pc' := 1) 0 rfl rfl ?_
  refine z_iconst (v := nI 1) (by decide) (pc' := 2) 1 rfl rfl ?_
  refine z_iconst (v := nI 4) (by decide) (pc' := 3) 2 rfl rfl ?_
  refine z_callS1 (pc' := 6) 3 rfl rfl k_Wb_72 (c_Wb_within _ _ _) (by decide) (Nat.le_refl _) (Nat.le_refl _) rfl rfl (Nat.le_of_ble_eq_true rfl) ?_
  first | refine z_if_neB (pc' := 9) 4 rfl rfl (tgt := 11) rfl (fun h6 => ?_) (fun h6 => ?_) | refine z_if_neN (pc' := 9) 4 rfl rfl (tgt := 11) rfl (by omega) (fun h6 => ?_) (fun h6 => ?_) | refine z_if_ne (pc' := 9) 4 rfl rfl (tgt := 11) rfl (fun h6 => ?_) (fun h6 => ?_)
  · obtain ⟨x1, hx1, hx2, rfl⟩ := z_wi h6 (by decide) (by decide)
    refine z_al0 (pc' := 12) 7 rfl rfl ?_
    refine z_getf (pc' := 15) 8 rfl rfl f_Wb_10_11 (by first | (rw [pc5_o (by decide)]; first | exact pob_56 | exact pob_57 | exact pob_58 | exact pob_59 | (rw [pob_o (by decide)]; first | assumption | exact hco.1)) | exact (pc5_is (by omega)).1) (by rfl) ?_
    refine z_callV1 (pc' := 18) 9 rfl rfl k_Wb_155 (by first | (rw [pc5_o (by decide)]; first | exact pob_56 | exact pob_57 | exact pob_58 | exact pob_59 | (rw [pob_o (by decide)]; first | assumption | exact hco.1)) | exact (pc5_is (by omega)).1) (c_Co_isOver5 (isCo_fr h1 (fun i hi => by rw [pc5_o (by omega), pob_o (by omega)])) (isCr_fr h13 (fun i a b => by rw [pc5_o (by omega), pob_o (by omega)])) hi (by omega)) (by decide) (Nat.le_refl _) (Nat.le_refl _) rfl rfl (Nat.le_of_ble_eq_true rfl) ?_
    first | refine z_if_eqB (pc' := 21) 10 rfl rfl (tgt := 24) rfl (fun h18 => ?_) (fun h18 => ?_) | refine z_if_eqN (pc' := 21) 10 rfl rfl (tgt := 24) rfl (by omega) (fun h18 => ?_) (fun h18 => ?_) | refine z_if_eq (pc' := 21) 10 rfl rfl (tgt := 24) rfl (fun h18 => ?_) (fun h18 => ?_)
    · refine z_al0 (pc' := 25) 13 rfl rfl ?_
      refine z_getf (pc' := 28) 14 rfl rfl f_Wb_43_11 (by first | (rw [pc5_o (by decide)]; first | exact pob_56 | exact pob_57 | exact pob_58 | exact pob_59 | (rw [pob_o (by decide)]; first | assumption | exact hco.1)) | exact (pc5_is (by omega)).1) (by rfl) ?_
      refine z_al0 (pc' := 29) 15 rfl rfl ?_
      refine z_getf (pc' := 32) 16 rfl rfl f_Wb_10_11 (by first | (rw [pc5_o (by decide)]; first | exact pob_56 | exact pob_57 | exact pob_58 | exact pob_59 | (rw [pob_o (by decide)]; first | assumption | exact hco.1)) | exact (pc5_is (by omega)).1) (by rfl) ?_
      refine z_il1 (pc' := 33) 17 rfl rfl ?_
      refine z_callV (pc' := 36) 18 rfl rfl k_Wb_235 (by first | (rw [pc5_o (by decide)]; first | exact pob_56 | exact pob_57 | exact pob_58 | exact pob_59 | (rw [pob_o (by decide)]; first | assumption | exact hco.1)) | exact (pc5_is (by omega)).1) (c_Pl_gameFrom h1 hi h3 h3a h60 hbh h13 (by omega) hmo0 hx) (by decide) (Nat.le_refl _) (Nat.le_refl _) rfl rfl (Nat.le_of_ble_eq_true rfl) (fun r33 μ33 h33 => ?_)
      obtain ⟨z0, f8, ψ8, z1, z2, z3⟩ := h33
      subst z0; subst z1
      dsimp only [Option.toList_some, List.cons_append, List.nil_append]
      refine z_pop rfl (pc' := 37) 19 rfl rfl ?_
      refine z_al0 (pc' := 38) 20 rfl rfl ?_
      refine z_getf (pc' := 41) 21 rfl rfl f_Wb_43_11 (by first | (rw [pc5_o (by decide)]; first | exact pob_56 | exact pob_57 | exact pob_58 | exact pob_59 | (rw [pob_o (by decide)]; first | assumption | exact hco.1)) | exact (pc5_is (by omega)).1) (by rfl) ?_
      refine z_getf (pc' := 44) 22 rfl rfl f_Wb_238_7 (by first | (rw [pc5_o (by decide)]; first | exact pob_56 | exact pob_57 | exact pob_58 | exact pob_59 | (rw [pob_o (by decide)]; first | assumption | exact hco.1)) | exact (pc5_is (by omega)).1) (by rfl) ?_
      rw [z3 (by omega)]
      exact z_ireturn 23 rfl rfl (by first | rfl | exact zbo_nar) rfl rfl (by refine ⟨by rw [f_play, if_pos h6, if_neg h18, tN_n (by omega)], isPl_of h60 hbh (z2.trans hf7) hR, fun i hi => by rw [pc5_o (by omega), pob_o (by omega)]⟩)
    · refine z_bipush (v := (-3)) (by decide) (pc' := 23) 11 rfl rfl ?_
      exact z_ireturn 12 rfl rfl (by first | rfl | exact zbo_nar) rfl rfl (by refine ⟨by rw [f_play, if_pos h6, if_pos h18], isPl_of h60 hbh hf7 hR, fun i hi => by rw [pc5_o (by omega), pob_o (by omega)]⟩)
  · refine z_iconst (v := (-1)) (by decide) (pc' := 10) 5 rfl rfl ?_
    exact z_ireturn 6 rfl rfl (by first | rfl | exact zbo_nar) rfl rfl (by refine ⟨by rw [f_play, if_neg h6], isPl_of h60 hbh hf7 hR, fun i hi => by rw [pc5_o (by omega), pob_o (by omega)]⟩)
