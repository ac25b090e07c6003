/-! ===== the reference reads a token ===== -/
def RS (s0 s : Nat → Int32) (p : Nat) (q v t : Int32) : Prop := (∀ i, (i < 6 ∨ 9 < i) → s i = s0 i) ∧ s 8 = nI p ∧ s 7 = q ∧ s 9 = v ∧ s 6 = t
theorem RS_8 {s0 s : Nat → Int32} {p p' : Nat} {q v t : Int32} (h : RS s0 s p q v t) : RS s0 (un s 8 (nI p')) p' q v t := ⟨fun i hi => by rw [un_n (by omega)]; exact h.1 i hi, rfl, h.2.2.1, h.2.2.2.1, h.2.2.2.2⟩
theorem RS_7 {s0 s : Nat → Int32} {p : Nat} {q q' v t : Int32} (h : RS s0 s p q v t) : RS s0 (un s 7 q') p q' v t := ⟨fun i hi => by rw [un_n (by omega)]; exact h.1 i hi, h.2.1, rfl, h.2.2.2.1, h.2.2.2.2⟩
theorem RS_9 {s0 s : Nat → Int32} {p : Nat} {q v v' t : Int32} (h : RS s0 s p q v t) : RS s0 (un s 9 v') p q v' t := ⟨fun i hi => by rw [un_n (by omega)]; exact h.1 i hi, h.2.1, h.2.2.1, rfl, h.2.2.2.2⟩
theorem RS_6 {s0 s : Nat → Int32} {p : Nat} {q v t t' : Int32} (h : RS s0 s p q v t) : RS s0 (un s 6 t') p q v t' := ⟨fun i hi => by rw [un_n (by omega)]; exact h.1 i hi, h.2.1, h.2.2.1, h.2.2.2.1, rfl⟩
def rlL (b : Nat → Nat) : Nat → Nat → Nat
  | 0, p => p
  | k + 1, p => if isL (b p) then rlL b k (p + 1) else p
def rlD (b : Nat → Nat) : Nat → Nat → Nat
  | 0, p => p
  | k + 1, p => if isD (b p) then rlD b k (p + 1) else p
theorem rlL_e {b : Nat → Nat} : ∀ k p, p ≠ 0 → isL (b (p - 1)) → rlL b k p = nd b k p
  | 0, p, _, _ => rfl
  | k + 1, p, h0, h => by
    unfold rlL nd
    by_cases e : isL (b p)
    · rw [if_pos e, if_pos ⟨h0, Or.inl ⟨h, e⟩⟩]
      exact rlL_e k (p + 1) (by omega) e
    · rw [if_neg e, if_neg (fun z => by rcases z.2 with q | q; exact e q.2; have := q.1; omega)]
theorem rlD_e {b : Nat → Nat} : ∀ k p, p ≠ 0 → isD (b (p - 1)) → rlD b k p = nd b k p
  | 0, p, _, _ => rfl
  | k + 1, p, h0, h => by
    unfold rlD nd
    by_cases e : isD (b p)
    · rw [if_pos e, if_pos ⟨h0, Or.inr ⟨h, e⟩⟩]
      exact rlD_e k (p + 1) (by omega) e
    · rw [if_neg e, if_neg (fun z => by rcases z.2 with q | q; have := q.1; omega; exact e q.2)]
theorem rlL_q {b : Nat → Nat} {ln q : Nat} (hq : q < ln) (h : isL (b q)) : rlL b (ln - q) q = enF b ln q := by
  rw [show ln - q = (ln - (q + 1)) + 1 by omega]
  unfold rlL
  rw [if_pos h]
  exact rlL_e _ _ (by omega) h
theorem rlD_q {b : Nat → Nat} {ln q : Nat} (hq : q < ln) (h : isD (b q)) : rlD b (ln - q) q = enF b ln q := by
  rw [show ln - q = (ln - (q + 1)) + 1 by omega]
  unfold rlD
  rw [if_pos h]
  exact rlD_e _ _ (by omega) h
def mmB (b t : Nat → Nat) (q : Nat) : Nat → Nat → Bool
  | 0, _ => true
  | m + 1, k => decide (b (q + k) = t k) && mmB b t q m (k + 1)
theorem mmB_s {b t : Nat → Nat} {q m k : Nat} : mmB b t q (m + 1) k = (decide (b (q + k) = t k) && mmB b t q m (k + 1)) := rfl
theorem mmB_t {b t : Nat → Nat} {q : Nat} : ∀ m k, mmB b t q m k = true ↔ ∀ i, k ≤ i → i < k + m → b (q + i) = t i
  | 0, k => ⟨fun _ i h1 h2 => by omega, fun _ => rfl⟩
  | m + 1, k => by
    unfold mmB
    rw [Bool.and_eq_true, decide_eq_true_iff, mmB_t m (k + 1)]
    constructor
    · intro ⟨h1, h2⟩ i g1 g2
      by_cases e : i = k
      · subst e; exact h1
      · exact h2 i (by omega) (by omega)
    · intro h
      exact ⟨h k (Nat.le_refl _) (by omega), fun i g1 g2 => h i (by omega) (by omega)⟩
theorem ND_b : ∀ j, j < 108 → ND j ≤ 122 := by decide +kernel
set_option maxHeartbeats 4000000 in
set_option maxRecDepth 100000 in
theorem c_Mo_isByte {G : zG} {n u : Nat} {ν : Nat → va_E} {b : Nat → Nat} {ln : Nat} (h92 : ν 92 = .inl (0, 200, .inl (fun i => nI (b i)))) (hb : ∀ i, b i ≤ 255) (hln : ln ≤ 200) {s m : Nat → Int32} {k lo hi : Nat} (h5 : s 5 = nI ln) (hk : k ≤ 200) (hlo : lo ≤ 255) (hhi : hi ≤ 255) : zMet G 1 M_Mo_isByte [.ref 88, .int (nI k), .int (nI lo), .int (nI hi)] n u (pm ν s m) n u (zE (some (.int (zbo (k < ln ∧ lo ≤ b k ∧ b k ≤ hi)))) (pm ν s m)) := by
  have hbk := hb k
  refine z_start (lv := [.ref 88, .int (nI k), .int (nI lo), .int (nI hi)]) K_Mo_isByte rfl rfl (Nat.le_refl _) (Nat.le_refl _) (Nat.le_of_ble_eq_true rfl) rfl ?_
  refine z_il1 (pc' := 1) 0 rfl rfl ?_
  refine z_al0 (pc' := 2) 1 rfl rfl ?_
  refine z_getf (pc' := 5) 2 rfl rfl f_Mo_128_12 (by first | exact pm_f | exact pm_1 | (rw [pm_o (by decide)]; assumption)) (by rfl) ?_
  rw [h5]
  first | refine z_icmp_geN (pc' := 8) 3 rfl rfl (tgt := 26) rfl (by omega) (by omega) (fun h5 => ?_) (fun h5 => ?_) | refine z_icmp_ge (pc' := 8) 3 rfl rfl (tgt := 26) rfl (fun h5 => ?_) (fun h5 => ?_)
  · refine z_iconst (v := nI 0) (by decide) (pc' := 27) 14 rfl rfl ?_
    exact z_ireturn 15 rfl rfl (by first | rfl | exact zbo_nar) rfl rfl (by exact ⟨by rw [zbo_f (fun z => by omega)], rfl⟩)
  · refine z_al0 (pc' := 9) 4 rfl rfl ?_
    refine z_getf (pc' := 12) 5 rfl rfl f_Mo_19_12 (by first | exact pm_f | exact pm_1 | (rw [pm_o (by decide)]; assumption)) (by rfl) ?_
    refine z_il1 (pc' := 13) 6 rfl rfl ?_
    refine z_iald (pc' := 14) 7 rfl rfl (by first | exact pm_f | exact pm_1 | (rw [pm_o (by decide)]; assumption)) (by omega) (by decide) ?_
    refine z_il2 (pc' := 15) 8 rfl rfl ?_
    refine z_il3 (pc' := 16) 9 rfl rfl ?_
    refine z_callS1 (pc' := 19) 10 rfl rfl k_Mo_67 (c_Mo_in _ _ _) (by decide) (Nat.le_refl _) (Nat.le_refl _) rfl rfl (Nat.le_of_ble_eq_true rfl) ?_
    first | refine z_if_eqB (pc' := 22) 11 rfl rfl (tgt := 26) rfl (fun h19 => ?_) (fun h19 => ?_) | refine z_if_eqN (pc' := 22) 11 rfl rfl (tgt := 26) rfl (by omega) (fun h19 => ?_) (fun h19 => ?_) | refine z_if_eq (pc' := 22) 11 rfl rfl (tgt := 26) rfl (fun h19 => ?_) (fun h19 => ?_)
    · refine z_iconst (v := nI 0) (by decide) (pc' := 27) 14 rfl rfl ?_
      exact z_ireturn 15 rfl rfl (by first | rfl | exact zbo_nar) rfl rfl (by exact ⟨by rw [zbo_f (fun z => h19 ⟨nI_le z.2.1 (by omega), nI_le z.2.2 (by omega)⟩)], rfl⟩)
    · refine z_iconst (v := nI 1) (by decide) (pc' := 23) 12 rfl rfl ?_
      refine z_goto 13 rfl (tgt := 27) rfl ?_
      exact z_ireturn 15 rfl rfl (by first | rfl | exact zbo_nar) rfl rfl (by exact ⟨by rw [zbo_t ⟨by omega, (nI_leI (by omega) (by omega)).mp h19.1, (nI_leI (by omega) (by omega)).mp h19.2⟩], rfl⟩)
set_option maxHeartbeats 4000000 in
set_option maxRecDepth 100000 in
theorem l_Mo_isNameF {G : zG} {n u : Nat} {s m : Nat → Int32} {ν : Nat → va_E} {w z k : Nat} (hz : z ≤ 200) (hk : k ≤ 200) : zW G 0 M_Mo_isName 34 [.ref 88, .int (nI w), .int (nI z), .int (bI false), .int (nI k)] [] n u (pm ν s m) n u (zE (some (.int (bI false))) (pm ν s m)) := by
  refine z_il4 (pc' := 36) 20 rfl rfl ?_
  refine z_il2 (pc' := 37) 21 rfl rfl ?_
  first | refine z_icmp_geN (pc' := 40) 22 rfl rfl (tgt := 82) rfl (by omega) (by omega) (fun h37 => ?_) (fun h37 => ?_) | refine z_icmp_ge (pc' := 40) 22 rfl rfl (tgt := 82) rfl (fun h37 => ?_) (fun h37 => ?_)
  · refine z_il3 (pc' := 83) 46 rfl rfl ?_
    exact z_ireturn 47 rfl rfl (by first | rfl | exact zbo_nar) rfl rfl (by exact ⟨rfl, rfl⟩)
  · refine z_il3 (pc' := 41) 23 rfl rfl ?_
    refine z_if_eq_t 24 rfl (tgt := 82) rfl (show bI false = 0 from rfl) ?_
    refine z_il3 (pc' := 83) 46 rfl rfl ?_
    exact z_ireturn 47 rfl rfl (by first | rfl | exact zbo_nar) rfl rfl (by exact ⟨rfl, rfl⟩)
set_option maxHeartbeats 4000000 in
set_option maxRecDepth 100000 in
theorem l_Mo_isName {G : zG} {n u : Nat} {ν : Nat → va_E} {b : Nat → Nat} {ln : Nat} (h92 : ν 92 = .inl (0, 200, .inl (fun i => nI (b i)))) (hb : ∀ i, b i ≤ 255) (hln : ln ≤ 200) {s m : Nat → Int32} {q w z : Nat} (h7 : s 7 = nI q) (hq : q + z ≤ 200) (hw : w < 18) (hz : z ≤ 6) : ∀ r k, k + r = z → zW G 0 M_Mo_isName 34 [.ref 88, .int (nI w), .int (nI z), .int (bI true), .int (nI k)] [] n u (pm ν s m) n u (zE (some (.int (bI (mmB b (fun i => ND (6 * w + i)) q r k)))) (pm ν s m))
  | 0, k, e => by
    refine z_il4 (pc' := 36) 20 rfl rfl ?_
    refine z_il2 (pc' := 37) 21 rfl rfl ?_
    first | refine z_icmp_geN (pc' := 40) 22 rfl rfl (tgt := 82) rfl (by omega) (by omega) (fun h37 => ?_) (fun h37 => ?_) | refine z_icmp_ge (pc' := 40) 22 rfl rfl (tgt := 82) rfl (fun h37 => ?_) (fun h37 => ?_)
    · refine z_il3 (pc' := 83) 46 rfl rfl ?_
      exact z_ireturn 47 rfl rfl (by first | rfl | exact zbo_nar) rfl rfl (by exact ⟨rfl, rfl⟩)
    · exfalso; omega
  | r + 1, k, e => by
    have hbk := hb (q + k)
    have hNk := ND_b (6 * w + k) (by omega)
    refine z_spec (fun hs => ?_)
    have m1 := hs 1 (by decide)
    refine z_il4 (pc' := 36) 20 rfl rfl ?_
    refine z_il2 (pc' := 37) 21 rfl rfl ?_
    first | refine z_icmp_geN (pc' := 40) 22 rfl rfl (tgt := 82) rfl (by omega) (by omega) (fun h37 => ?_) (fun h37 => ?_) | refine z_icmp_ge (pc' := 40) 22 rfl rfl (tgt := 82) rfl (fun h37 => ?_) (fun h37 => ?_)
    · exfalso; omega
    · refine z_il3 (pc' := 41) 23 rfl rfl ?_
      refine z_if_eq_f (pc' := 44) 24 rfl rfl (tgt := 82) rfl (by decide) ?_
      refine z_getsN (pc' := 47) 25 rfl rfl g_Mo_134 ?_
      refine z_bipush (v := nI 6) (by decide) (pc' := 49) 26 rfl rfl ?_
      refine z_il1 (pc' := 50) 27 rfl rfl ?_
      first | refine z_imulN (pc' := 51) 28 rfl rfl ?_ | refine z_imul (pc' := 51) 28 rfl rfl ?_
      refine z_il4 (pc' := 53) 29 rfl rfl ?_
      first | refine z_iaddN (pc' := 54) 30 rfl rfl ?_ | refine z_iadd (pc' := 54) 30 rfl rfl ?_
      refine z_iald7 (pc' := 55) 31 rfl rfl (by decide) (by exact m1) (by omega) (by decide) ?_
      refine z_te (show _ = nI (ND (6 * w + k)) from nam_ND _ (by omega)) ?_
      refine z_al0 (pc' := 56) 32 rfl rfl ?_
      refine z_getf (pc' := 59) 33 rfl rfl f_Mo_19_12 (by first | exact pm_f | exact pm_1 | (rw [pm_o (by decide)]; assumption)) (by rfl) ?_
      refine z_al0 (pc' := 60) 34 rfl rfl ?_
      refine z_getf (pc' := 63) 35 rfl rfl f_Mo_137_12 (by first | exact pm_f | exact pm_1 | (rw [pm_o (by decide)]; assumption)) (by rfl) ?_
      rw [h7]
      refine z_il4 (pc' := 65) 36 rfl rfl ?_
      first | refine z_iaddN (pc' := 66) 37 rfl rfl ?_ | refine z_iadd (pc' := 66) 37 rfl rfl ?_
      refine z_iald (pc' := 67) 38 rfl rfl (by first | exact pm_f | exact pm_1 | (rw [pm_o (by decide)]; assumption)) (by omega) (by decide) ?_
      first | refine z_icmp_neN (pc' := 70) 39 rfl rfl (tgt := 74) rfl (by omega) (by omega) (fun h67 => ?_) (fun h67 => ?_) | refine z_icmp_ne (pc' := 70) 39 rfl rfl (tgt := 74) rfl (fun h67 => ?_) (fun h67 => ?_)
      · refine z_iconst (v := nI 0) (by decide) (pc' := 75) 42 rfl rfl ?_
        refine z_is3 rfl rfl (pc' := 76) 43 rfl rfl ?_
        first | refine z_inc4N rfl rfl (pc' := 79) 44 rfl rfl ?_ | refine z_inc4 rfl rfl rfl (pc' := 79) 44 rfl rfl ?_
        refine z_goto 45 rfl (tgt := 34) rfl ?_
        rw [show mmB b (fun i => ND (6 * w + i)) q (r + 1) k = false by rw [mmB_s, decide_eq_false (fun z => h67 z.symm), Bool.false_and]]
        exact l_Mo_isNameF (by omega) (by omega)
      · refine z_iconst (v := nI 1) (by decide) (pc' := 71) 40 rfl rfl ?_
        refine z_goto 41 rfl (tgt := 75) rfl ?_
        refine z_is3 rfl rfl (pc' := 76) 43 rfl rfl ?_
        first | refine z_inc4N rfl rfl (pc' := 79) 44 rfl rfl ?_ | refine z_inc4 rfl rfl rfl (pc' := 79) 44 rfl rfl ?_
        refine z_goto 45 rfl (tgt := 34) rfl ?_
        rw [show mmB b (fun i => ND (6 * w + i)) q (r + 1) k = mmB b (fun i => ND (6 * w + i)) q r (k + 1) by rw [mmB_s, decide_eq_true h67.symm, Bool.true_and]]
        exact l_Mo_isName h92 hb hln h7 hq hw hz r (k + 1) (by omega)
set_option maxHeartbeats 4000000 in
set_option maxRecDepth 100000 in
theorem c_Mo_isName {G : zG} {n u : Nat} {ν : Nat → va_E} {b : Nat → Nat} {ln : Nat} (h92 : ν 92 = .inl (0, 200, .inl (fun i => nI (b i)))) (hb : ∀ i, b i ≤ 255) (hln : ln ≤ 200) {s m : Nat → Int32} {q w z : Nat} (h7 : s 7 = nI q) (hq : q + z ≤ 200) (hw : w < 18) (hL : ∀ i, i < z → isL (b (q + i))) : zMet G 0 M_Mo_isName [.ref 88, .int (nI w), .int (nI z)] n u (pm ν s m) n u (zE (some (.int (zbo (mNd b q z w)))) (pm ν s m)) := by
  have h2 := ND_2 w hw
  refine z_start (lv := [.ref 88, .int (nI w), .int (nI z), .retAddr 0, .retAddr 0]) K_Mo_isName rfl rfl (Nat.le_refl _) (Nat.le_refl _) (Nat.le_of_ble_eq_true rfl) rfl ?_
  refine z_spec (fun hs => ?_)
  have m1 := hs 1 (by decide)
  refine z_il2 (pc' := 1) 0 rfl rfl ?_
  refine z_bipush (v := nI 6) (by decide) (pc' := 3) 1 rfl rfl ?_
  first | refine z_icmp_gtN (pc' := 6) 2 rfl rfl (tgt := 29) rfl (by omega) (by omega) (fun h3 => ?_) (fun h3 => ?_) | refine z_icmp_gt (pc' := 6) 2 rfl rfl (tgt := 29) rfl (fun h3 => ?_) (fun h3 => ?_)
  · refine z_iconst (v := nI 0) (by decide) (pc' := 30) 16 rfl rfl ?_
    refine z_is3 rfl rfl (pc' := 31) 17 rfl rfl ?_
    refine z_iconst (v := nI 0) (by decide) (pc' := 32) 18 rfl rfl ?_
    refine z_is4 rfl rfl (pc' := 34) 19 rfl rfl ?_
    refine zW_to (l_Mo_isNameF (by omega) (by omega)) ⟨?_, rfl⟩
    rw [zbo_f (fun y => by have := y.1; omega)]
    rfl
  · refine z_il2 (pc' := 7) 3 rfl rfl ?_
    refine z_bipush (v := nI 6) (by decide) (pc' := 9) 4 rfl rfl ?_
    first | refine z_icmp_eqN (pc' := 12) 5 rfl rfl (tgt := 25) rfl (by omega) (by omega) (fun h9 => ?_) (fun h9 => ?_) | refine z_icmp_eq (pc' := 12) 5 rfl rfl (tgt := 25) rfl (fun h9 => ?_) (fun h9 => ?_)
    · refine z_iconst (v := nI 1) (by decide) (pc' := 26) 14 rfl rfl ?_
      refine z_goto 15 rfl (tgt := 30) rfl ?_
      refine z_is3 rfl rfl (pc' := 31) 17 rfl rfl ?_
      refine z_iconst (v := nI 0) (by decide) (pc' := 32) 18 rfl rfl ?_
      refine z_is4 rfl rfl (pc' := 34) 19 rfl rfl ?_
      refine zW_to (l_Mo_isName h92 hb hln h7 hq hw (by omega) z 0 (by omega)) ⟨?_, rfl⟩
      have hor : z = 6 ∨ ND (6 * w + z) = 0 := by omega
      refine congrArg (fun x => some (Value.int x)) (zbo_c ?_)
      rw [mmB_t]
      exact ⟨fun y => ⟨ND_1 w hw z (by omega) (fun i hi => by rw [← y i (by omega) (by omega)]; exact hL i hi) hor, fun i hi => y i (by omega) (by omega)⟩, fun y i _ hi => y.2 i (by omega)⟩
    · refine z_getsN (pc' := 15) 6 rfl rfl g_Mo_134 ?_
      refine z_bipush (v := nI 6) (by decide) (pc' := 17) 7 rfl rfl ?_
      refine z_il1 (pc' := 18) 8 rfl rfl ?_
      first | refine z_imulN (pc' := 19) 9 rfl rfl ?_ | refine z_imul (pc' := 19) 9 rfl rfl ?_
      refine z_il2 (pc' := 20) 10 rfl rfl ?_
      first | refine z_iaddN (pc' := 21) 11 rfl rfl ?_ | refine z_iadd (pc' := 21) 11 rfl rfl ?_
      refine z_iald7 (pc' := 22) 12 rfl rfl (by decide) (by exact m1) (by omega) (by decide) ?_
      refine z_te (show _ = nI (ND (6 * w + z)) from nam_ND _ (by omega)) ?_
      have hNz := ND_b (6 * w + z) (by omega)
      first | refine z_if_neB (pc' := 25) 13 rfl rfl (tgt := 29) rfl (fun h22 => ?_) (fun h22 => ?_) | refine z_if_neN (pc' := 25) 13 rfl rfl (tgt := 29) rfl (by omega) (fun h22 => ?_) (fun h22 => ?_) | refine z_if_ne (pc' := 25) 13 rfl rfl (tgt := 29) rfl (fun h22 => ?_) (fun h22 => ?_)
      · refine z_iconst (v := nI 0) (by decide) (pc' := 30) 16 rfl rfl ?_
        refine z_is3 rfl rfl (pc' := 31) 17 rfl rfl ?_
        refine z_iconst (v := nI 0) (by decide) (pc' := 32) 18 rfl rfl ?_
        refine z_is4 rfl rfl (pc' := 34) 19 rfl rfl ?_
        refine zW_to (l_Mo_isNameF (by omega) (by omega)) ⟨?_, rfl⟩
        rw [zbo_f (fun y => by have := y.1; rcases h2.1 with g | g; omega; rw [← y.1] at g; omega)]
        rfl
      · refine z_iconst (v := nI 1) (by decide) (pc' := 26) 14 rfl rfl ?_
        refine z_goto 15 rfl (tgt := 30) rfl ?_
        refine z_is3 rfl rfl (pc' := 31) 17 rfl rfl ?_
        refine z_iconst (v := nI 0) (by decide) (pc' := 32) 18 rfl rfl ?_
        refine z_is4 rfl rfl (pc' := 34) 19 rfl rfl ?_
        refine zW_to (l_Mo_isName h92 hb hln h7 hq hw (by omega) z 0 (by omega)) ⟨?_, rfl⟩
        have hor : z = 6 ∨ ND (6 * w + z) = 0 := by omega
        refine congrArg (fun x => some (Value.int x)) (zbo_c ?_)
        rw [mmB_t]
        exact ⟨fun y => ⟨ND_1 w hw z (by omega) (fun i hi => by rw [← y i (by omega) (by omega)]; exact hL i hi) hor, fun i hi => y i (by omega) (by omega)⟩, fun y i _ hi => y.2 i (by omega)⟩
set_option maxHeartbeats 4000000 in
set_option maxRecDepth 100000 in
theorem l_Mo_wordHere {G : zG} {n u : Nat} {ν : Nat → va_E} {b : Nat → Nat} {ln : Nat} (h92 : ν 92 = .inl (0, 200, .inl (fun i => nI (b i)))) (hb : ∀ i, b i ≤ 255) (hln : ln ≤ 200) {s m : Nat → Int32} {q z : Nat} (h7 : s 7 = nI q) (h8 : s 8 = nI (q + z)) (hq : q + z ≤ 200) (hL : ∀ i, i < z → isL (b (q + i))) : ∀ r w, w + r = 18 → zW G 1 M_Mo_wordHere 2 [.ref 88, .int (nI w)] [] n u (pm ν s m) n u (zE (some (.int (nI (if fN b q z r w < 18 then fN b q z r w else 26)))) (pm ν s m))
  | 0, w, e => by
    have e18 : w = 18 := by omega
    subst e18
    refine z_il1 (pc' := 3) 2 rfl rfl ?_
    refine z_bipush (v := nI 18) (by decide) (pc' := 5) 3 rfl rfl ?_
    refine z_icmp_ge_t 4 rfl (tgt := 31) rfl (by decide) ?_
    refine z_il1 (pc' := 32) 16 rfl rfl ?_
    refine z_bipush (v := nI 18) (by decide) (pc' := 34) 17 rfl rfl ?_
    refine z_icmp_ge_t 18 rfl (tgt := 41) rfl (by decide) ?_
    refine z_bipush (v := nI 26) (by decide) (pc' := 43) 21 rfl rfl ?_
    exact z_ireturn 22 rfl rfl (by first | rfl | exact zbo_nar) rfl rfl (by exact ⟨rfl, rfl⟩)
  | r + 1, w, e => by
    refine z_il1 (pc' := 3) 2 rfl rfl ?_
    refine z_bipush (v := nI 18) (by decide) (pc' := 5) 3 rfl rfl ?_
    first | refine z_icmp_geN (pc' := 8) 4 rfl rfl (tgt := 31) rfl (by omega) (by omega) (fun h5 => ?_) (fun h5 => ?_) | refine z_icmp_ge (pc' := 8) 4 rfl rfl (tgt := 31) rfl (fun h5 => ?_) (fun h5 => ?_)
    · refine z_il1 (pc' := 32) 16 rfl rfl ?_
      refine z_bipush (v := nI 18) (by decide) (pc' := 34) 17 rfl rfl ?_
      first | refine z_icmp_geN (pc' := 37) 18 rfl rfl (tgt := 41) rfl (by omega) (by omega) (fun h34 => ?_) (fun h34 => ?_) | refine z_icmp_ge (pc' := 37) 18 rfl rfl (tgt := 41) rfl (fun h34 => ?_) (fun h34 => ?_)
      · exfalso; omega
      · exfalso; omega
    · refine z_al0 (pc' := 9) 5 rfl rfl ?_
      refine z_il1 (pc' := 10) 6 rfl rfl ?_
      refine z_al0 (pc' := 11) 7 rfl rfl ?_
      refine z_getf (pc' := 14) 8 rfl rfl f_Mo_140_12 (by first | exact pm_f | exact pm_1 | (rw [pm_o (by decide)]; assumption)) (by rfl) ?_
      rw [h8]
      refine z_al0 (pc' := 15) 9 rfl rfl ?_
      refine z_getf (pc' := 18) 10 rfl rfl f_Mo_137_12 (by first | exact pm_f | exact pm_1 | (rw [pm_o (by decide)]; assumption)) (by rfl) ?_
      rw [h7]
      first | refine z_isubN (by omega) (pc' := 19) 11 rfl rfl ?_ | refine z_isub (pc' := 19) 11 rfl rfl ?_
      rw [show q + z - q = z by omega]
      refine z_callV1 (pc' := 22) 12 rfl rfl k_Mo_143 (by first | exact pm_f | exact pm_1 | (rw [pm_o (by decide)]; assumption)) (c_Mo_isName h92 hb hln h7 hq (by omega) hL) (by decide) (Nat.le_refl _) (Nat.le_refl _) rfl rfl (Nat.le_of_ble_eq_true rfl) ?_
      first | refine z_if_neB (pc' := 25) 13 rfl rfl (tgt := 31) rfl (fun h22 => ?_) (fun h22 => ?_) | refine z_if_neN (pc' := 25) 13 rfl rfl (tgt := 31) rfl (by omega) (fun h22 => ?_) (fun h22 => ?_) | refine z_if_ne (pc' := 25) 13 rfl rfl (tgt := 31) rfl (fun h22 => ?_) (fun h22 => ?_)
      · refine z_il1 (pc' := 32) 16 rfl rfl ?_
        refine z_bipush (v := nI 18) (by decide) (pc' := 34) 17 rfl rfl ?_
        first | refine z_icmp_geN (pc' := 37) 18 rfl rfl (tgt := 41) rfl (by omega) (by omega) (fun h34 => ?_) (fun h34 => ?_) | refine z_icmp_ge (pc' := 37) 18 rfl rfl (tgt := 41) rfl (fun h34 => ?_) (fun h34 => ?_)
        · exfalso; omega
        · refine z_il1 (pc' := 38) 19 rfl rfl ?_
          refine z_goto 20 rfl (tgt := 43) rfl ?_
          exact z_ireturn 22 rfl rfl (by first | rfl | exact zbo_nar) rfl rfl (by exact ⟨by rw [show fN b q z (r + 1) w = w from if_pos h22, if_pos (by omega)], rfl⟩)
      · first | refine z_inc1N rfl rfl (pc' := 28) 14 rfl rfl ?_ | refine z_inc1 rfl rfl rfl (pc' := 28) 14 rfl rfl ?_
        refine z_goto 15 rfl (tgt := 2) rfl ?_
        rw [show fN b q z (r + 1) w = fN b q z r (w + 1) from if_neg h22]
        exact l_Mo_wordHere h92 hb hln h7 h8 hq hL r (w + 1) (by omega)
set_option maxHeartbeats 4000000 in
set_option maxRecDepth 100000 in
theorem c_Mo_wordHere {G : zG} {n u : Nat} {ν : Nat → va_E} {b : Nat → Nat} {ln : Nat} (h92 : ν 92 = .inl (0, 200, .inl (fun i => nI (b i)))) (hb : ∀ i, b i ≤ 255) (hln : ln ≤ 200) {s m : Nat → Int32} {q z : Nat} (h7 : s 7 = nI q) (h8 : s 8 = nI (q + z)) (hq : q + z ≤ 200) (hL : ∀ i, i < z → isL (b (q + i))) : zMet G 1 M_Mo_wordHere [.ref 88] n u (pm ν s m) n u (zE (some (.int (nI (mtk (fW b q z 18 0))))) (pm ν s m)) := by
  rw [← fNW]
  refine z_start (lv := [.ref 88, .retAddr 0]) K_Mo_wordHere rfl rfl (Nat.le_refl _) (Nat.le_refl _) (Nat.le_of_ble_eq_true rfl) rfl ?_
  refine z_iconst (v := nI 0) (by decide) (pc' := 1) 0 rfl rfl ?_
  refine z_is1 rfl rfl (pc' := 2) 1 rfl rfl ?_
  exact l_Mo_wordHere h92 hb hln h7 h8 hq hL 18 0 rfl
set_option maxHeartbeats 4000000 in
set_option maxRecDepth 100000 in
theorem c_Mo_signOf {G : zG} {n u : Nat} {μ : Nat → va_E} {c : Nat} (hc : c ≤ 255) : zMet G 0 M_Mo_signOf [.int (nI c)] n u μ n u (zE (some (.int (nI (mtk (syF c))))) μ) := by
  refine z_start (lv := [.int (nI c)]) K_Mo_signOf rfl rfl (Nat.le_refl _) (Nat.le_refl _) (Nat.le_of_ble_eq_true rfl) rfl ?_
  refine z_il0 (pc' := 1) 0 rfl rfl ?_
  refine z_sw 40 (fun h1_40 => ?_) (fun h1_40 => ?_)
  · refine z_lookup 1 rfl (by decide) (off := 62) (by decide) (tgt := 63) rfl ?_
    refine z_bipush (v := nI 22) (by decide) (pc' := 65) 4 rfl rfl ?_
    exact z_ireturn 5 rfl rfl (by first | rfl | exact zbo_nar) rfl rfl (by have e : c = 40 := (nI_eq (by omega) (by decide)).mp h1_40; subst e; exact ⟨rfl, rfl⟩)
  refine z_sw 41 (fun h1_41 => ?_) (fun h1_41 => ?_)
  · refine z_lookup 1 rfl (by decide) (off := 65) (by decide) (tgt := 66) rfl ?_
    refine z_bipush (v := nI 23) (by decide) (pc' := 68) 6 rfl rfl ?_
    exact z_ireturn 7 rfl rfl (by first | rfl | exact zbo_nar) rfl rfl (by have e : c = 41 := (nI_eq (by omega) (by decide)).mp h1_41; subst e; exact ⟨rfl, rfl⟩)
  refine z_sw 59 (fun h1_59 => ?_) (fun h1_59 => ?_)
  · refine z_lookup 1 rfl (by decide) (off := 68) (by decide) (tgt := 69) rfl ?_
    refine z_bipush (v := nI 24) (by decide) (pc' := 71) 8 rfl rfl ?_
    exact z_ireturn 9 rfl rfl (by first | rfl | exact zbo_nar) rfl rfl (by have e : c = 59 := (nI_eq (by omega) (by decide)).mp h1_59; subst e; exact ⟨rfl, rfl⟩)
  refine z_sw 60 (fun h1_60 => ?_) (fun h1_60 => ?_)
  · refine z_lookup 1 rfl (by decide) (off := 59) (by decide) (tgt := 60) rfl ?_
    refine z_bipush (v := nI 21) (by decide) (pc' := 62) 2 rfl rfl ?_
    exact z_ireturn 3 rfl rfl (by first | rfl | exact zbo_nar) rfl rfl (by have e : c = 60 := (nI_eq (by omega) (by decide)).mp h1_60; subst e; exact ⟨rfl, rfl⟩)
  refine z_sw 61 (fun h1_61 => ?_) (fun h1_61 => ?_)
  · refine z_lookup 1 rfl (by decide) (off := 59) (by decide) (tgt := 60) rfl ?_
    refine z_bipush (v := nI 21) (by decide) (pc' := 62) 2 rfl rfl ?_
    exact z_ireturn 3 rfl rfl (by first | rfl | exact zbo_nar) rfl rfl (by have e : c = 61 := (nI_eq (by omega) (by decide)).mp h1_61; subst e; exact ⟨rfl, rfl⟩)
  refine z_sw 62 (fun h1_62 => ?_) (fun h1_62 => ?_)
  · refine z_lookup 1 rfl (by decide) (off := 59) (by decide) (tgt := 60) rfl ?_
    refine z_bipush (v := nI 21) (by decide) (pc' := 62) 2 rfl rfl ?_
    exact z_ireturn 3 rfl rfl (by first | rfl | exact zbo_nar) rfl rfl (by have e : c = 62 := (nI_eq (by omega) (by decide)).mp h1_62; subst e; exact ⟨rfl, rfl⟩)
  refine z_lookup 1 rfl (by decide) (off := 71) (by have e0 := z_ne (by decide) h1_40; have e1 := z_ne (by decide) h1_41; have e2 := z_ne (by decide) h1_59; have e3 := z_ne (by decide) h1_60; have e4 := z_ne (by decide) h1_61; have e5 := z_ne (by decide) h1_62; simp [Op.lookupswitch.offset, e0, e1, e2, e3, e4, e5]; try omega) (tgt := 72) rfl ?_
  refine z_bipush (v := nI 26) (by decide) (pc' := 74) 10 rfl rfl ?_
  exact z_ireturn 11 rfl rfl (by first | rfl | exact zbo_nar) rfl rfl (by exact ⟨by rw [show syF c = 24 by unfold syF; rw [if_neg (fun z => h1_59 (congrArg nI z)), if_neg (fun z => h1_40 (congrArg nI z)), if_neg (fun z => h1_41 (congrArg nI z)), if_neg (fun z => h1_60 (congrArg nI z)), if_neg (fun z => h1_61 (congrArg nI z)), if_neg (fun z => h1_62 (congrArg nI z))]]; rfl, rfl⟩)
