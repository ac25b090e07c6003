/-- behind a search below a place: what it found; the courses up to there and the acts ahead of it are as they were -/
def trP (ν : Nat → va_E) (S : Nat → Nat → Nat) (K k : Nat) (set : Int32) (rw ac0 : Nat → Int32) (ψ0 : Nat → zC5) (v6 v7 : Int32) (σ' : zSr) : zP := fun r μ' => r = none ∧ ∃ (f' ba' ac' : Nat → Int32) (ψ' : Nat → zC5), μ' = pc5 (pob ν f' (.ref 5) ba' rw ac') ψ' ∧ SR S K set f' ba' σ' ∧ (∀ i, i ≤ k → ψ' i = ψ0 i) ∧ (∀ i, i < k → ac' i = ac0 i) ∧ f' 6 = v6 ∧ f' 7 = v7
/-- a course is at t -/
def atC (c : zC5) (t : zT3) : Prop := c.1 = t.1 ∧ c.2.2.1 = t.2.1 ∧ c.2.2.2.1 = t.2.2
def acP (S : Nat → Nat → Nat) (k P : Nat) (ac : Nat → Int32) : Prop := ∀ i, i < k → ac i = nI (dgt (S 0 0 + 1) (k - 1 - i) P)
theorem acP_up {S : Nat → Nat → Nat} {k P d : Nat} {ac : Nat → Int32} (h : acP S k P ac) (hd : d < S 0 0 + 1) : acP S (k + 1) (P * (S 0 0 + 1) + d) (upd ac k (nI d)) := fun i hi => by
  by_cases e : i = k
  · subst e
    rw [upd_at, show i + 1 - 1 - i = 0 by omega, dgt_0 hd]
  · rw [upd_no e, h i (by omega), show k + 1 - 1 - i = (k - 1 - i) + 1 by omega, dgt_up hd]
theorem acP_eq {S : Nat → Nat → Nat} {k P : Nat} {ac ac' : Nat → Int32} (h : acP S k P ac) (he : ∀ i, i < k → ac' i = ac i) : acP S k P ac' := fun i hi => by rw [he i hi]; exact h i hi
theorem hdA_le {N : Nat} : ∀ r p h, hdA N r p h ≤ h + r
  | 0, p, h => Nat.le_refl _
  | r + 1, p, h => by
    show hdA N r p (if dgt N r p = 0 then h else h + 1) ≤ _
    have := hdA_le (N := N) r p (if dgt N r p = 0 then h else h + 1)
    split at this <;> split <;> omega
set_option maxHeartbeats 4000000 in
set_option maxRecDepth 100000 in
theorem l_Pl_tryActs {G : zG} {n u : Nat} {ν : Nat → va_E} {S : Nat → Nat → Nat} {sc ch : Int32} {bh : Nat → Option Nat} {β : Nat → Nat → Nat} {its : Nat → zI} {D : zD6} (hco : isCo ν S sc ch) (hi : iS S) (hbk : isBk ν 17 β) (hD : dzB β its D) (h60 : ν 60 = .inl (3, 5, .inr (.inr (.inr (.inr bh))))) (hbh : ∀ j, j < 5 → bh j = some (61 + 4 * j)) {K : Nat} {set : Int32} {rw : Nat → Int32} (hK : K ≤ 4) {r : Nat} (ih : ∀ (k P a h : Nat) (t : zT3) (f ba ac : Nat → Int32) (ψ : Nat → zC5) (σ : zSr), k + r = K → a + 108 * r ≤ 900 → h + r ≤ 4 → t.1 + r ≤ 16 → iX S t.2.1 t.2.2 → atC (ψ k) t → acP S k P ac → SR S K set f ba σ →
    zMet G (5 + r) M_Pl_tryActs [.ref 56, .int (nI k), .int (nI a), .int (nI h)] n u (pc5 (pob ν f (.ref 5) ba rw ac) ψ) n u (trP ν S K k set rw ac ψ (f 6) (f 7) (fdN (lfS S D set r a h t) ((S 0 0 + 1) ^ r) (P * (S 0 0 + 1) ^ r) σ))) {k P a h : Nat} {t : zT3} {ac0 : Nat → Int32} {ψ0 : Nat → zC5} {v6 v7 : Int32} (hk : k + (r + 1) = K) (ha : a + 108 * (r + 1) ≤ 900) (hh : h + (r + 1) ≤ 4) (ht : t.1 + (r + 1) ≤ 16) (hx : iX S t.2.1 t.2.2) (hc0 : atC (ψ0 k) t) (hac0 : acP S k P ac0) : ∀ c d (f ba ac : Nat → Int32) (ψ : Nat → zC5) (σ : zSr), d + c = (S 0 0 + 1) → SR S K set f ba σ → (∀ i, i ≤ k → ψ i = ψ0 i) → (∀ i, i < k → ac i = ac0 i) → f 6 = v6 → f 7 = v7 →
    zW G (5 + (r + 1)) M_Pl_tryActs 18 [.ref 56, .int (nI k), .int (nI a), .int (nI h), .int (nI d), .retAddr 0] [] n u (pc5 (pob ν f (.ref 5) ba rw ac) ψ) n u (trP ν S K k set rw ac0 ψ0 v6 v7 (fdN (lfS S D set (r + 1) a h t) (c * (S 0 0 + 1) ^ r) ((P * (S 0 0 + 1) + d) * (S 0 0 + 1) ^ r) σ))
  | 0, d, f, ba, ac, ψ, σ, e, hs, hψ, hac, h6, h7 => by
    have hi0 := hi.1
    refine z_il4 (pc' := 20) 11 rfl rfl ?_
    refine z_al0 (pc' := 21) 12 rfl rfl ?_
    refine z_getf (pc' := 24) 13 rfl rfl f_Pl_28_7 (by first | (rw [pc5_o (by decide)]; first | exact pob_56 | exact pob_57 | exact pob_58 | exact pob_59 | (rw [pob_o (by decide)]; first | assumption | exact hco.1)) | exact (pc5_is (by omega)).1) (by rfl) ?_
    refine z_getf (pc' := 27) 14 rfl rfl f_Pl_76_3 (by first | (rw [pc5_o (by decide)]; first | exact pob_56 | exact pob_57 | exact pob_58 | exact pob_59 | (rw [pob_o (by decide)]; first | assumption | exact hco.1)) | exact (pc5_is (by omega)).1) (by rfl) ?_
    first | refine z_icmp_gtN (pc' := 30) 15 rfl rfl (tgt := 103) rfl (by omega) (by omega) (fun h27 => ?_) (fun h27 => ?_) | refine z_icmp_gt (pc' := 30) 15 rfl rfl (tgt := 103) rfl (fun h27 => ?_) (fun h27 => ?_)
    · exact z_return 60 rfl rfl rfl rfl (by rw [Nat.zero_mul]; exact ⟨rfl, f, ba, ac, ψ, rfl, hs, hψ, hac, h6, h7⟩)
    · exfalso; omega
  | c + 1, d, f, ba, ac, ψ, σ, e, hs, hψ, hac, h6, h7 => by
    have hi0 := hi.1
    obtain ⟨q1, q2, q3⟩ : atC (ψ k) t := by rw [hψ k (Nat.le_refl _)]; exact hc0
    have hwl := wor_le hi (D := D) (act := d) (t := t)
    have ihd : ∀ (h' : Nat) (q9 : Nat → Nat), h' = (if d = 0 then h else h + 1) → zMet G (5 + r) M_Pl_tryActs [.ref 56, .int (nI (k + 1)), .int (nI (a + wor S D d t)), .int (nI h')] n u (pc5 (pob ν f (.ref 5) ba rw (upd ac k (nI d))) (un ψ (k + 1) (t.1 + 1, crt S D d t, (stp S D d t).2.1, (stp S D d t).2.2, q9))) n u (trP ν S K (k + 1) set rw (upd ac k (nI d)) (un ψ (k + 1) (t.1 + 1, crt S D d t, (stp S D d t).2.1, (stp S D d t).2.2, q9)) (f 6) (f 7) (fdN (lfS S D set r (a + wor S D d t) h' (stp S D d t)) ((S 0 0 + 1) ^ r) ((P * (S 0 0 + 1) + d) * (S 0 0 + 1) ^ r) σ)) := fun h' q9 e9 =>
      ih (k + 1) (P * (S 0 0 + 1) + d) (a + wor S D d t) h' (stp S D d t) f ba (upd ac k (nI d)) _ σ (by omega) (by omega) (by rw [e9]; split <;> omega) (by show t.1 + 1 + r ≤ 16; omega) (iX_stp hi hx) (by rw [un_s]; exact ⟨rfl, rfl, rfl⟩) (acP_up (acP_eq hac0 hac) (by omega)) hs
    refine z_il4 (pc' := 20) 11 rfl rfl ?_
    refine z_al0 (pc' := 21) 12 rfl rfl ?_
    refine z_getf (pc' := 24) 13 rfl rfl f_Pl_28_7 (by first | (rw [pc5_o (by decide)]; first | exact pob_56 | exact pob_57 | exact pob_58 | exact pob_59 | (rw [pob_o (by decide)]; first | assumption | exact hco.1)) | exact (pc5_is (by omega)).1) (by rfl) ?_
    refine z_getf (pc' := 27) 14 rfl rfl f_Pl_76_3 (by first | (rw [pc5_o (by decide)]; first | exact pob_56 | exact pob_57 | exact pob_58 | exact pob_59 | (rw [pob_o (by decide)]; first | assumption | exact hco.1)) | exact (pc5_is (by omega)).1) (by rfl) ?_
    first | refine z_icmp_gtN (pc' := 30) 15 rfl rfl (tgt := 103) rfl (by omega) (by omega) (fun h27 => ?_) (fun h27 => ?_) | refine z_icmp_gt (pc' := 30) 15 rfl rfl (tgt := 103) rfl (fun h27 => ?_) (fun h27 => ?_)
    · exfalso; omega
    · refine z_al0 (pc' := 31) 16 rfl rfl ?_
      refine z_getf (pc' := 34) 17 rfl rfl f_Pl_18_7 (by first | (rw [pc5_o (by decide)]; first | exact pob_56 | exact pob_57 | exact pob_58 | exact pob_59 | (rw [pob_o (by decide)]; first | assumption | exact hco.1)) | exact (pc5_is (by omega)).1) (by rfl) ?_
      refine z_il1 (pc' := 35) 18 rfl rfl ?_
      refine z_il4 (pc' := 37) 19 rfl rfl ?_
      refine z_iast (pc' := 38) 20 rfl rfl (by first | (rw [pc5_o (by decide)]; first | exact pob_56 | exact pob_57 | exact pob_58 | exact pob_59 | (rw [pob_o (by decide)]; first | assumption | exact hco.1)) | exact (pc5_is (by omega)).1) (by omega) (by decide) ?_
      rw [pc5_z (by decide), pob_s59]
      refine z_al0 (pc' := 39) 21 rfl rfl ?_
      refine z_getf (pc' := 42) 22 rfl rfl f_Pl_23_7 (by first | (rw [pc5_o (by decide)]; first | exact pob_56 | exact pob_57 | exact pob_58 | exact pob_59 | (rw [pob_o (by decide)]; first | assumption | exact hco.1)) | exact (pc5_is (by omega)).1) (by rfl) ?_
      refine z_il1 (pc' := 43) 23 rfl rfl ?_
      refine z_iconst (v := nI 1) (by decide) (pc' := 44) 24 rfl rfl ?_
      first | refine z_iaddN (pc' := 45) 25 rfl rfl ?_ | refine z_iadd (pc' := 45) 25 rfl rfl ?_
      refine z_aald (pc' := 46) 26 rfl rfl (by first | (rw [pc5_o (by decide)]; first | exact pob_56 | exact pob_57 | exact pob_58 | exact pob_59 | (rw [pob_o (by decide)]; first | assumption | exact hco.1)) | exact (pc5_is (by omega)).1) (by omega) (by decide) (by exact hbh _ (by omega)) ?_
      refine z_al0 (pc' := 47) 27 rfl rfl ?_
      refine z_getf (pc' := 50) 28 rfl rfl f_Pl_23_7 (by first | (rw [pc5_o (by decide)]; first | exact pob_56 | exact pob_57 | exact pob_58 | exact pob_59 | (rw [pob_o (by decide)]; first | assumption | exact hco.1)) | exact (pc5_is (by omega)).1) (by rfl) ?_
      refine z_il1 (pc' := 51) 29 rfl rfl ?_
      refine z_aald (pc' := 52) 30 rfl rfl (by first | (rw [pc5_o (by decide)]; first | exact pob_56 | exact pob_57 | exact pob_58 | exact pob_59 | (rw [pob_o (by decide)]; first | assumption | exact hco.1)) | exact (pc5_is (by omega)).1) (by omega) (by decide) (by exact hbh _ (by omega)) ?_
      refine z_callV0 (pc' := 55) 31 rfl rfl k_Pl_48 (by exact (pc5_is (by omega)).1) (c_copy5 (by omega) (by omega) (by omega)) (by omega) (Nat.le_refl _) (Nat.le_refl _) rfl rfl (Nat.le_of_ble_eq_true rfl) ?_
      refine z_al0 (pc' := 56) 32 rfl rfl ?_
      refine z_getf (pc' := 59) 33 rfl rfl f_Pl_23_7 (by first | (rw [pc5_o (by decide)]; first | exact pob_56 | exact pob_57 | exact pob_58 | exact pob_59 | (rw [pob_o (by decide)]; first | assumption | exact hco.1)) | exact (pc5_is (by omega)).1) (by rfl) ?_
      refine z_il1 (pc' := 60) 34 rfl rfl ?_
      refine z_iconst (v := nI 1) (by decide) (pc' := 61) 35 rfl rfl ?_
      first | refine z_iaddN (pc' := 62) 36 rfl rfl ?_ | refine z_iadd (pc' := 62) 36 rfl rfl ?_
      refine z_aald (pc' := 63) 37 rfl rfl (by first | (rw [pc5_o (by decide)]; first | exact pob_56 | exact pob_57 | exact pob_58 | exact pob_59 | (rw [pob_o (by decide)]; first | assumption | exact hco.1)) | exact (pc5_is (by omega)).1) (by omega) (by decide) (by exact hbh _ (by omega)) ?_
      refine z_al0 (pc' := 64) 38 rfl rfl ?_
      refine z_getf (pc' := 67) 39 rfl rfl f_Pl_28_7 (by first | (rw [pc5_o (by decide)]; first | exact pob_56 | exact pob_57 | exact pob_58 | exact pob_59 | (rw [pob_o (by decide)]; first | assumption | exact hco.1)) | exact (pc5_is (by omega)).1) (by rfl) ?_
      refine z_il4 (pc' := 69) 40 rfl rfl ?_
      refine z_callVX1 (pc' := 72) 41 rfl rfl k_Pl_79 (by exact (pc5_is (by omega)).1) (c_passes5 (isCo_fr hco (fun i hi => pob_o (by omega))) hi (isBk_fr hbk (fun j a b => pob_o (by omega))) hD (by omega) (by rw [un_s]; show (ψ k).1 ≤ 16; omega) (by omega) (by rw [un_s]; show iX S (ψ k).2.2.1 (ψ k).2.2.2.1; rw [q2, q3]; exact hx)) (by omega) (Nat.le_refl _) (Nat.le_refl _) rfl rfl (Nat.le_of_ble_eq_true rfl) (fun q69 => ?_)
      rw [un_s, un_un]
      dsimp only
      rw [q1, q2, q3]
      refine z_is5 rfl rfl (pc' := 74) 42 rfl rfl ?_
      refine z_al0 (pc' := 75) 43 rfl rfl ?_
      refine z_il1 (pc' := 76) 44 rfl rfl ?_
      refine z_iconst (v := nI 1) (by decide) (pc' := 77) 45 rfl rfl ?_
      first | refine z_iaddN (pc' := 78) 46 rfl rfl ?_ | refine z_iadd (pc' := 78) 46 rfl rfl ?_
      refine z_il2 (pc' := 79) 47 rfl rfl ?_
      refine z_il5 (pc' := 81) 48 rfl rfl ?_
      first | refine z_iaddN (pc' := 82) 49 rfl rfl ?_ | refine z_iadd (pc' := 82) 49 rfl rfl ?_
      refine z_il4 (pc' := 84) 50 rfl rfl ?_
      first | refine z_if_neB (pc' := 87) 51 rfl rfl (tgt := 91) rfl (fun h84 => ?_) (fun h84 => ?_) | refine z_if_neN (pc' := 87) 51 rfl rfl (tgt := 91) rfl (by omega) (fun h84 => ?_) (fun h84 => ?_) | refine z_if_ne (pc' := 87) 51 rfl rfl (tgt := 91) rfl (fun h84 => ?_) (fun h84 => ?_)
      · refine z_il3 (pc' := 92) 54 rfl rfl ?_
        refine z_iconst (v := nI 1) (by decide) (pc' := 93) 55 rfl rfl ?_
        first | refine z_iaddN (pc' := 94) 56 rfl rfl ?_ | refine z_iadd (pc' := 94) 56 rfl rfl ?_
        refine z_callV (pc' := 97) 57 rfl rfl k_Pl_68 (by first | (rw [pc5_o (by decide)]; first | exact pob_56 | exact pob_57 | exact pob_58 | exact pob_59 | (rw [pob_o (by decide)]; first | assumption | exact hco.1)) | exact (pc5_is (by omega)).1) (ihd _ _ (by rw [if_neg h84])) (by omega) (Nat.le_refl _) (Nat.le_refl _) rfl rfl (Nat.le_of_ble_eq_true rfl) (fun r94 μ94 h94 => ?_)
        obtain ⟨y0, f9, ba9, ac9, ψ9, y1, y2, y3, y4, y5, y6⟩ := h94
        subst y0; subst y1
        dsimp only [Option.toList_none, List.nil_append]
        first | refine z_inc4N rfl rfl (pc' := 100) 58 rfl rfl ?_ | refine z_inc4 rfl rfl rfl (pc' := 100) 58 rfl rfl ?_
        refine z_goto 59 rfl (tgt := 18) rfl ?_
        refine z_less5 ?_
        have e9 : fdN (lfS S D set (r + 1) a h t) ((c + 1) * (S 0 0 + 1) ^ r) ((P * (S 0 0 + 1) + d) * (S 0 0 + 1) ^ r) σ = fdN (lfS S D set (r + 1) a h t) (c * (S 0 0 + 1) ^ r) ((P * (S 0 0 + 1) + (d + 1)) * (S 0 0 + 1) ^ r) (fdN (lfS S D set r (a + wor S D d t) (h + 1) (stp S D d t)) ((S 0 0 + 1) ^ r) ((P * (S 0 0 + 1) + d) * (S 0 0 + 1) ^ r) σ) := by
          rw [Nat.succ_mul, Nat.add_comm (c * (S 0 0 + 1) ^ r), fdN_add, ← Nat.succ_mul]
          congr 1
          refine fdN_ext _ _ _ (fun p p1 p2 s => ?_)
          rw [lfS_in (x := P) (d := d) (by omega) p1 p2]
          rw [if_neg h84]
        rw [e9]
        exact l_Pl_tryActs hco hi hbk hD h60 hbh hK ih hk ha hh ht hx hc0 hac0 c (d + 1) _ _ _ _ _ (by omega) y2 (fun i hi9 => by rw [y3 i (by omega), un_n (by omega)]; exact hψ i hi9) (fun i hi9 => by rw [y4 i (by omega), upd_no (by omega)]; exact hac i hi9) (y5.trans h6) (y6.trans h7)
      · refine z_il3 (pc' := 88) 52 rfl rfl ?_
        refine z_goto 53 rfl (tgt := 94) rfl ?_
        refine z_callV (pc' := 97) 57 rfl rfl k_Pl_68 (by first | (rw [pc5_o (by decide)]; first | exact pob_56 | exact pob_57 | exact pob_58 | exact pob_59 | (rw [pob_o (by decide)]; first | assumption | exact hco.1)) | exact (pc5_is (by omega)).1) (ihd _ _ (by rw [if_pos h84])) (by omega) (Nat.le_refl _) (Nat.le_refl _) rfl rfl (Nat.le_of_ble_eq_true rfl) (fun r94 μ94 h94 => ?_)
        obtain ⟨y0, f9, ba9, ac9, ψ9, y1, y2, y3, y4, y5, y6⟩ := h94
        subst y0; subst y1
        dsimp only [Option.toList_none, List.nil_append]
        first | refine z_inc4N rfl rfl (pc' := 100) 58 rfl rfl ?_ | refine z_inc4 rfl rfl rfl (pc' := 100) 58 rfl rfl ?_
        refine z_goto 59 rfl (tgt := 18) rfl ?_
        refine z_less5 ?_
        have e9 : fdN (lfS S D set (r + 1) a h t) ((c + 1) * (S 0 0 + 1) ^ r) ((P * (S 0 0 + 1) + d) * (S 0 0 + 1) ^ r) σ = fdN (lfS S D set (r + 1) a h t) (c * (S 0 0 + 1) ^ r) ((P * (S 0 0 + 1) + (d + 1)) * (S 0 0 + 1) ^ r) (fdN (lfS S D set r (a + wor S D d t) (h) (stp S D d t)) ((S 0 0 + 1) ^ r) ((P * (S 0 0 + 1) + d) * (S 0 0 + 1) ^ r) σ) := by
          rw [Nat.succ_mul, Nat.add_comm (c * (S 0 0 + 1) ^ r), fdN_add, ← Nat.succ_mul]
          congr 1
          refine fdN_ext _ _ _ (fun p p1 p2 s => ?_)
          rw [lfS_in (x := P) (d := d) (by omega) p1 p2]
          rw [if_pos h84]
        rw [e9]
        exact l_Pl_tryActs hco hi hbk hD h60 hbh hK ih hk ha hh ht hx hc0 hac0 c (d + 1) _ _ _ _ _ (by omega) y2 (fun i hi9 => by rw [y3 i (by omega), un_n (by omega)]; exact hψ i hi9) (fun i hi9 => by rw [y4 i (by omega), upd_no (by omega)]; exact hac i hi9) (y5.trans h6) (y6.trans h7)
set_option maxHeartbeats 4000000 in
set_option maxRecDepth 100000 in
theorem c_Pl_tryActs {G : zG} {n u : Nat} {ν : Nat → va_E} {S : Nat → Nat → Nat} {sc ch : Int32} {bh : Nat → Option Nat} {β : Nat → Nat → Nat} {its : Nat → zI} {D : zD6} (hco : isCo ν S sc ch) (hi : iS S) (hbk : isBk ν 17 β) (hD : dzB β its D) (h60 : ν 60 = .inl (3, 5, .inr (.inr (.inr (.inr bh))))) (hbh : ∀ j, j < 5 → bh j = some (61 + 4 * j)) {K : Nat} {set : Int32} {rw : Nat → Int32} (hK : K ≤ 4) : ∀ (r : Nat), ∀ (k P a h : Nat) (t : zT3) (f ba ac : Nat → Int32) (ψ : Nat → zC5) (σ : zSr), k + r = K → a + 108 * r ≤ 900 → h + r ≤ 4 → t.1 + r ≤ 16 → iX S t.2.1 t.2.2 → atC (ψ k) t → acP S k P ac → SR S K set f ba σ →
    zMet G (5 + r) M_Pl_tryActs [.ref 56, .int (nI k), .int (nI a), .int (nI h)] n u (pc5 (pob ν f (.ref 5) ba rw ac) ψ) n u (trP ν S K k set rw ac ψ (f 6) (f 7) (fdN (lfS S D set r a h t) ((S 0 0 + 1) ^ r) (P * (S 0 0 + 1) ^ r) σ))
  | 0, k, P, a, h, t, f, ba, ac, ψ, σ, hk, ha, hh, ht, hx, hc, hac, hs => by
    obtain ⟨q1, q2, q3⟩ := hc
    obtain rfl : k = K := by omega
    have s0 := hs.1
    refine z_start (lv := [.ref 56, .int (nI k), .int (nI a), .int (nI h), .retAddr 0, .retAddr 0]) K_Pl_tryActs rfl rfl (Nat.le_refl _) (Nat.le_refl _) (Nat.le_of_ble_eq_true rfl) rfl ?_
    refine z_il1 (pc' := 1) 0 rfl rfl ?_
    refine z_al0 (pc' := 2) 1 rfl rfl ?_
    refine z_getf (pc' := 5) 2 rfl rfl f_Pl_45_7 (by first | (rw [pc5_o (by decide)]; first | exact pob_56 | exact pob_57 | exact pob_58 | exact pob_59 | (rw [pob_o (by decide)]; first | assumption | exact hco.1)) | exact (pc5_is (by omega)).1) (by rfl) ?_
    rw [s0]
    first | refine z_icmp_ltN (pc' := 8) 3 rfl rfl (tgt := 15) rfl (by omega) (by omega) (fun h5 => ?_) (fun h5 => ?_) | refine z_icmp_lt (pc' := 8) 3 rfl rfl (tgt := 15) rfl (fun h5 => ?_) (fun h5 => ?_)
    · exfalso; omega
    · refine z_al0 (pc' := 9) 4 rfl rfl ?_
      refine z_il2 (pc' := 10) 5 rfl rfl ?_
      refine z_il3 (pc' := 11) 6 rfl rfl ?_
      refine z_callV (pc' := 14) 7 rfl rfl k_Pl_72 (by first | (rw [pc5_o (by decide)]; first | exact pob_56 | exact pob_57 | exact pob_58 | exact pob_59 | (rw [pob_o (by decide)]; first | assumption | exact hco.1)) | exact (pc5_is (by omega)).1) (c_Pl_weigh (p := P) hco hi hbk hD h60 hbh hK hs (by omega) (by omega) hac (fun j => by rw [q2]; exact (hx j).1)) (by omega) (Nat.le_refl _) (Nat.le_refl _) rfl rfl (Nat.le_of_ble_eq_true rfl) (fun r11 μ11 h11 => ?_)
      obtain ⟨y0, f9, ba9, y1, y2, y5, y6⟩ := h11
      subst y0; subst y1
      dsimp only [Option.toList_none, List.nil_append]
      exact z_return 8 rfl rfl rfl rfl (by rw [Nat.pow_zero, Nat.mul_one]; refine ⟨rfl, f9, ba9, ac, ψ, rfl, ?_, fun _ _ => rfl, fun _ _ => rfl, y5, y6⟩; rw [q2] at y2; exact y2)
  | r + 1, k, P, a, h, t, f, ba, ac, ψ, σ, hk, ha, hh, ht, hx, hc, hac, hs => by
    have s0 := hs.1
    refine z_start (lv := [.ref 56, .int (nI k), .int (nI a), .int (nI h), .retAddr 0, .retAddr 0]) K_Pl_tryActs rfl rfl (Nat.le_refl _) (Nat.le_refl _) (Nat.le_of_ble_eq_true rfl) rfl ?_
    refine z_il1 (pc' := 1) 0 rfl rfl ?_
    refine z_al0 (pc' := 2) 1 rfl rfl ?_
    refine z_getf (pc' := 5) 2 rfl rfl f_Pl_45_7 (by first | (rw [pc5_o (by decide)]; first | exact pob_56 | exact pob_57 | exact pob_58 | exact pob_59 | (rw [pob_o (by decide)]; first | assumption | exact hco.1)) | exact (pc5_is (by omega)).1) (by rfl) ?_
    rw [s0]
    first | refine z_icmp_ltN (pc' := 8) 3 rfl rfl (tgt := 15) rfl (by omega) (by omega) (fun h5 => ?_) (fun h5 => ?_) | refine z_icmp_lt (pc' := 8) 3 rfl rfl (tgt := 15) rfl (fun h5 => ?_) (fun h5 => ?_)
    · refine z_iconst (v := nI 0) (by decide) (pc' := 16) 9 rfl rfl ?_
      refine z_is4 rfl rfl (pc' := 18) 10 rfl rfl ?_
      have e9 := l_Pl_tryActs (G := G) (n := n) (u := u) (rw := rw) hco hi hbk hD h60 hbh hK (fun k P a h t f ba ac ψ σ => c_Pl_tryActs hco hi hbk hD h60 hbh hK r k P a h t f ba ac ψ σ) hk ha hh ht hx hc hac (S 0 0 + 1) 0 f ba ac ψ σ (by omega) hs (fun _ _ => rfl) (fun _ _ => rfl) rfl rfl
      rw [show (S 0 0 + 1) * (S 0 0 + 1) ^ r = (S 0 0 + 1) ^ (r + 1) by rw [Nat.pow_succ, Nat.mul_comm], show (P * (S 0 0 + 1) + 0) * (S 0 0 + 1) ^ r = P * (S 0 0 + 1) ^ (r + 1) by rw [Nat.add_zero, Nat.mul_assoc, Nat.pow_succ, Nat.mul_comm (S 0 0 + 1)]] at e9
      exact e9
    · exfalso; omega
