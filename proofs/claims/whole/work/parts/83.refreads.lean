/-! ===== the reference's reads ===== -/
theorem fW_ns {b : Nat → Nat} {q n : Nat} : ¬ (100 ≤ fW b q n 18 0 ∨ sgB (fW b q n 18 0) = true) := by
  intro h
  rcases fW_s (b := b) (q := q) (n := n) 18 0 (by omega) with ⟨w, -, h2, -, h4⟩ | ⟨-, h2⟩
  · rw [h4, sgB_t] at h; omega
  · rw [h2, sgB_t] at h; omega
theorem sy_v {c : Nat} (h : 100 ≤ syF c ∨ sgB (syF c) = true) : c = mvl (syF c) := by
  by_cases h1 : c = 60
  · subst h1; decide
  by_cases h2 : c = 61
  · subst h2; decide
  by_cases h3 : c = 62
  · subst h3; decide
  have e : syF c = 18 ∨ syF c = 19 ∨ syF c = 20 ∨ syF c = 24 := by
    unfold syF
    rw [if_neg h1, if_neg h2, if_neg h3]
    repeat' split
    all_goals simp
  rw [sgB_t] at h
  omega
set_option maxHeartbeats 4000000 in
set_option maxRecDepth 100000 in
theorem l_Mo_skip {G : zG} {n u : Nat} {Φ : zP} {ν : Nat → va_E} {b : Nat → Nat} {ln : Nat} (h92 : ν 92 = .inl (0, 200, .inl (fun i => nI (b i)))) (hb : ∀ i, b i ≤ 255) (hln : ln ≤ 200) {s0 m : Nat → Int32} {q v t : Int32} (h5 : s0 5 = nI ln) : ∀ k p s, p + k = ln → RS s0 s p q v t → (∀ s', RS s0 s' (sk b k p) q v t → zW G 3 M_Mo_reads 28 [.ref 88] [] n u (pm ν s' m) n u Φ) → zW G 3 M_Mo_reads 0 [.ref 88] [] n u (pm ν s m) n u Φ
  | 0, p, s, e, hR, K => by
    refine z_al0 (pc' := 1) 0 rfl rfl ?_
    refine z_al0 (pc' := 2) 1 rfl rfl ?_
    refine z_getf (pc' := 5) 2 rfl rfl f_Mo_140_12 (by first | exact pm_f | exact pm_1 | (rw [pm_o (by decide)]; assumption)) (by rfl) ?_
    rw [hR.2.1]
    refine z_bipush (v := nI 32) (by decide) (pc' := 7) 3 rfl rfl ?_
    refine z_bipush (v := nI 32) (by decide) (pc' := 9) 4 rfl rfl ?_
    refine z_callV1 (pc' := 12) 5 rfl rfl k_Mo_146 (by first | exact pm_f | exact pm_1 | (rw [pm_o (by decide)]; assumption)) (c_Mo_isByte h92 hb hln ((hR.1 5 (by decide)).trans h5) (by omega) (by decide) (by decide)) (by decide) (Nat.le_refl _) (Nat.le_refl _) rfl rfl (Nat.le_of_ble_eq_true rfl) ?_
    first | refine z_if_eqB (pc' := 15) 6 rfl rfl (tgt := 28) rfl (fun h12 => ?_) (fun h12 => ?_) | refine z_if_eqN (pc' := 15) 6 rfl rfl (tgt := 28) rfl (by omega) (fun h12 => ?_) (fun h12 => ?_) | refine z_if_eq (pc' := 15) 6 rfl rfl (tgt := 28) rfl (fun h12 => ?_) (fun h12 => ?_)
    · exact K s hR
    · exfalso; omega
  | k + 1, p, s, e, hR, K => by
    refine z_al0 (pc' := 1) 0 rfl rfl ?_
    refine z_al0 (pc' := 2) 1 rfl rfl ?_
    refine z_getf (pc' := 5) 2 rfl rfl f_Mo_140_12 (by first | exact pm_f | exact pm_1 | (rw [pm_o (by decide)]; assumption)) (by rfl) ?_
    rw [hR.2.1]
    refine z_bipush (v := nI 32) (by decide) (pc' := 7) 3 rfl rfl ?_
    refine z_bipush (v := nI 32) (by decide) (pc' := 9) 4 rfl rfl ?_
    refine z_callV1 (pc' := 12) 5 rfl rfl k_Mo_146 (by first | exact pm_f | exact pm_1 | (rw [pm_o (by decide)]; assumption)) (c_Mo_isByte h92 hb hln ((hR.1 5 (by decide)).trans h5) (by omega) (by decide) (by decide)) (by decide) (Nat.le_refl _) (Nat.le_refl _) rfl rfl (Nat.le_of_ble_eq_true rfl) ?_
    first | refine z_if_eqB (pc' := 15) 6 rfl rfl (tgt := 28) rfl (fun h12 => ?_) (fun h12 => ?_) | refine z_if_eqN (pc' := 15) 6 rfl rfl (tgt := 28) rfl (by omega) (fun h12 => ?_) (fun h12 => ?_) | refine z_if_eq (pc' := 15) 6 rfl rfl (tgt := 28) rfl (fun h12 => ?_) (fun h12 => ?_)
    · rw [show sk b (k + 1) p = p from if_neg (fun z => h12 ⟨by omega, by omega, by omega⟩)] at K
      exact K s hR
    · refine z_al0 (pc' := 16) 7 rfl rfl ?_
      refine z_dup rfl (pc' := 17) 8 rfl rfl ?_
      refine z_getf (pc' := 20) 9 rfl rfl f_Mo_140_12 (by first | exact pm_f | exact pm_1 | (rw [pm_o (by decide)]; assumption)) (by rfl) ?_
      rw [hR.2.1]
      refine z_iconst (v := nI 1) (by decide) (pc' := 21) 10 rfl rfl ?_
      first | refine z_iaddN (pc' := 22) 11 rfl rfl ?_ | refine z_iadd (pc' := 22) 11 rfl rfl ?_
      refine z_putf (pc' := 25) 12 rfl rfl f_Mo_140_12 (by first | exact pm_f | exact pm_1 | (rw [pm_o (by decide)]; assumption)) rfl rfl (by rfl) (by rfl) ?_
      dsimp only [List.set]
      rw [mob_8, pm_s0]
      refine z_goto 13 rfl (tgt := 0) rfl ?_
      rw [show sk b (k + 1) p = sk b k (p + 1) from if_pos (by omega)] at K
      exact l_Mo_skip h92 hb hln h5 k (p + 1) _ (by omega) (RS_8 hR) K
set_option maxHeartbeats 4000000 in
set_option maxRecDepth 100000 in
theorem l_Mo_letters {G : zG} {n u : Nat} {Φ : zP} {ν : Nat → va_E} {b : Nat → Nat} {ln : Nat} (h92 : ν 92 = .inl (0, 200, .inl (fun i => nI (b i)))) (hb : ∀ i, b i ≤ 255) (hln : ln ≤ 200) {s0 m : Nat → Int32} {q v t : Int32} (h5 : s0 5 = nI ln) : ∀ k p s, p + k = ln → RS s0 s p q v t → (∀ s', RS s0 s' (rlL b k p) q v t → zW G 3 M_Mo_reads 104 [.ref 88] [] n u (pm ν s' m) n u Φ) → zW G 3 M_Mo_reads 76 [.ref 88] [] n u (pm ν s m) n u Φ
  | 0, p, s, e, hR, K => by
    refine z_al0 (pc' := 77) 37 rfl rfl ?_
    refine z_al0 (pc' := 78) 38 rfl rfl ?_
    refine z_getf (pc' := 81) 39 rfl rfl f_Mo_140_12 (by first | exact pm_f | exact pm_1 | (rw [pm_o (by decide)]; assumption)) (by rfl) ?_
    rw [hR.2.1]
    refine z_bipush (v := nI 97) (by decide) (pc' := 83) 40 rfl rfl ?_
    refine z_bipush (v := nI 122) (by decide) (pc' := 85) 41 rfl rfl ?_
    refine z_callV1 (pc' := 88) 42 rfl rfl k_Mo_146 (by first | exact pm_f | exact pm_1 | (rw [pm_o (by decide)]; assumption)) (c_Mo_isByte h92 hb hln ((hR.1 5 (by decide)).trans h5) (by omega) (by decide) (by decide)) (by decide) (Nat.le_refl _) (Nat.le_refl _) rfl rfl (Nat.le_of_ble_eq_true rfl) ?_
    first | refine z_if_eqB (pc' := 91) 43 rfl rfl (tgt := 104) rfl (fun h88 => ?_) (fun h88 => ?_) | refine z_if_eqN (pc' := 91) 43 rfl rfl (tgt := 104) rfl (by omega) (fun h88 => ?_) (fun h88 => ?_) | refine z_if_eq (pc' := 91) 43 rfl rfl (tgt := 104) rfl (fun h88 => ?_) (fun h88 => ?_)
    · exact K s hR
    · exfalso; omega
  | k + 1, p, s, e, hR, K => by
    refine z_al0 (pc' := 77) 37 rfl rfl ?_
    refine z_al0 (pc' := 78) 38 rfl rfl ?_
    refine z_getf (pc' := 81) 39 rfl rfl f_Mo_140_12 (by first | exact pm_f | exact pm_1 | (rw [pm_o (by decide)]; assumption)) (by rfl) ?_
    rw [hR.2.1]
    refine z_bipush (v := nI 97) (by decide) (pc' := 83) 40 rfl rfl ?_
    refine z_bipush (v := nI 122) (by decide) (pc' := 85) 41 rfl rfl ?_
    refine z_callV1 (pc' := 88) 42 rfl rfl k_Mo_146 (by first | exact pm_f | exact pm_1 | (rw [pm_o (by decide)]; assumption)) (c_Mo_isByte h92 hb hln ((hR.1 5 (by decide)).trans h5) (by omega) (by decide) (by decide)) (by decide) (Nat.le_refl _) (Nat.le_refl _) rfl rfl (Nat.le_of_ble_eq_true rfl) ?_
    first | refine z_if_eqB (pc' := 91) 43 rfl rfl (tgt := 104) rfl (fun h88 => ?_) (fun h88 => ?_) | refine z_if_eqN (pc' := 91) 43 rfl rfl (tgt := 104) rfl (by omega) (fun h88 => ?_) (fun h88 => ?_) | refine z_if_eq (pc' := 91) 43 rfl rfl (tgt := 104) rfl (fun h88 => ?_) (fun h88 => ?_)
    · rw [show rlL b (k + 1) p = p from if_neg (fun z => h88 ⟨by omega, by omega, by omega⟩)] at K
      exact K s hR
    · refine z_al0 (pc' := 92) 44 rfl rfl ?_
      refine z_dup rfl (pc' := 93) 45 rfl rfl ?_
      refine z_getf (pc' := 96) 46 rfl rfl f_Mo_140_12 (by first | exact pm_f | exact pm_1 | (rw [pm_o (by decide)]; assumption)) (by rfl) ?_
      rw [hR.2.1]
      refine z_iconst (v := nI 1) (by decide) (pc' := 97) 47 rfl rfl ?_
      first | refine z_iaddN (pc' := 98) 48 rfl rfl ?_ | refine z_iadd (pc' := 98) 48 rfl rfl ?_
      refine z_putf (pc' := 101) 49 rfl rfl f_Mo_140_12 (by first | exact pm_f | exact pm_1 | (rw [pm_o (by decide)]; assumption)) rfl rfl (by rfl) (by rfl) ?_
      dsimp only [List.set]
      rw [mob_8, pm_s0]
      refine z_goto 50 rfl (tgt := 76) rfl ?_
      rw [show rlL b (k + 1) p = rlL b k (p + 1) from if_pos h88.2] at K
      exact l_Mo_letters h92 hb hln h5 k (p + 1) _ (by omega) (RS_8 hR) K
set_option maxHeartbeats 4000000 in
set_option maxRecDepth 100000 in
theorem l_Mo_digits {G : zG} {n u : Nat} {Φ : zP} {ν : Nat → va_E} {b : Nat → Nat} {ln : Nat} (h92 : ν 92 = .inl (0, 200, .inl (fun i => nI (b i)))) (hb : ∀ i, b i ≤ 255) (hln : ln ≤ 200) {s0 m : Nat → Int32} {q : Nat} {t : Int32} (h5 : s0 5 = nI ln) : ∀ k p s v, p + k = ln → q ≤ p → RS s0 s p (nI q) v t → (p - q ≤ 4 → v = nI (nuF b q (p - q))) → (∀ s' v', RS s0 s' (rlD b k p) (nI q) v' t → (rlD b k p - q ≤ 4 → v' = nI (nuF b q (rlD b k p - q))) → zW G 3 M_Mo_reads 202 [.ref 88] [] n u (pm ν s' m) n u Φ) → zW G 3 M_Mo_reads 130 [.ref 88] [] n u (pm ν s m) n u Φ
  | 0, p, s, v, e, hq, hR, hv, K => by
    refine z_al0 (pc' := 131) 63 rfl rfl ?_
    refine z_al0 (pc' := 132) 64 rfl rfl ?_
    refine z_getf (pc' := 135) 65 rfl rfl f_Mo_140_12 (by first | exact pm_f | exact pm_1 | (rw [pm_o (by decide)]; assumption)) (by rfl) ?_
    rw [hR.2.1]
    refine z_bipush (v := nI 48) (by decide) (pc' := 137) 66 rfl rfl ?_
    refine z_bipush (v := nI 57) (by decide) (pc' := 139) 67 rfl rfl ?_
    refine z_callV1 (pc' := 142) 68 rfl rfl k_Mo_146 (by first | exact pm_f | exact pm_1 | (rw [pm_o (by decide)]; assumption)) (c_Mo_isByte h92 hb hln ((hR.1 5 (by decide)).trans h5) (by omega) (by decide) (by decide)) (by decide) (Nat.le_refl _) (Nat.le_refl _) rfl rfl (Nat.le_of_ble_eq_true rfl) ?_
    first | refine z_if_eqB (pc' := 145) 69 rfl rfl (tgt := 202) rfl (fun h142 => ?_) (fun h142 => ?_) | refine z_if_eqN (pc' := 145) 69 rfl rfl (tgt := 202) rfl (by omega) (fun h142 => ?_) (fun h142 => ?_) | refine z_if_eq (pc' := 145) 69 rfl rfl (tgt := 202) rfl (fun h142 => ?_) (fun h142 => ?_)
    · exact K s v hR hv
    · exfalso; omega
  | k + 1, p, s, v, e, hq, hR, hv, K => by
    have hbp := hb p
    refine z_al0 (pc' := 131) 63 rfl rfl ?_
    refine z_al0 (pc' := 132) 64 rfl rfl ?_
    refine z_getf (pc' := 135) 65 rfl rfl f_Mo_140_12 (by first | exact pm_f | exact pm_1 | (rw [pm_o (by decide)]; assumption)) (by rfl) ?_
    rw [hR.2.1]
    refine z_bipush (v := nI 48) (by decide) (pc' := 137) 66 rfl rfl ?_
    refine z_bipush (v := nI 57) (by decide) (pc' := 139) 67 rfl rfl ?_
    refine z_callV1 (pc' := 142) 68 rfl rfl k_Mo_146 (by first | exact pm_f | exact pm_1 | (rw [pm_o (by decide)]; assumption)) (c_Mo_isByte h92 hb hln ((hR.1 5 (by decide)).trans h5) (by omega) (by decide) (by decide)) (by decide) (Nat.le_refl _) (Nat.le_refl _) rfl rfl (Nat.le_of_ble_eq_true rfl) ?_
    first | refine z_if_eqB (pc' := 145) 69 rfl rfl (tgt := 202) rfl (fun h142 => ?_) (fun h142 => ?_) | refine z_if_eqN (pc' := 145) 69 rfl rfl (tgt := 202) rfl (by omega) (fun h142 => ?_) (fun h142 => ?_) | refine z_if_eq (pc' := 145) 69 rfl rfl (tgt := 202) rfl (fun h142 => ?_) (fun h142 => ?_)
    · rw [show rlD b (k + 1) p = p from if_neg (fun z => h142 ⟨by omega, z⟩)] at K
      exact K s v hR hv
    · refine z_al0 (pc' := 146) 70 rfl rfl ?_
      refine z_al0 (pc' := 147) 71 rfl rfl ?_
      refine z_getf (pc' := 150) 72 rfl rfl f_Mo_140_12 (by first | exact pm_f | exact pm_1 | (rw [pm_o (by decide)]; assumption)) (by rfl) ?_
      rw [hR.2.1]
      refine z_al0 (pc' := 151) 73 rfl rfl ?_
      refine z_getf (pc' := 154) 74 rfl rfl f_Mo_137_12 (by first | exact pm_f | exact pm_1 | (rw [pm_o (by decide)]; assumption)) (by rfl) ?_
      rw [hR.2.2.1]
      first | refine z_isubN (by omega) (pc' := 155) 75 rfl rfl ?_ | refine z_isub (pc' := 155) 75 rfl rfl ?_
      refine z_iconst (v := nI 3) (by decide) (pc' := 156) 76 rfl rfl ?_
      first | refine z_icmp_leN (pc' := 159) 77 rfl rfl (tgt := 166) rfl (by omega) (by omega) (fun h156 => ?_) (fun h156 => ?_) | refine z_icmp_le (pc' := 159) 77 rfl rfl (tgt := 166) rfl (fun h156 => ?_) (fun h156 => ?_)
      · refine z_bipush (v := nI 10) (by decide) (pc' := 168) 81 rfl rfl ?_
        refine z_al0 (pc' := 169) 82 rfl rfl ?_
        refine z_getf (pc' := 172) 83 rfl rfl f_Mo_149_12 (by first | exact pm_f | exact pm_1 | (rw [pm_o (by decide)]; assumption)) (by rfl) ?_
        rw [hR.2.2.2.1, hv (by omega)]
        first | refine z_imulN (pc' := 173) 84 rfl rfl ?_ | refine z_imul (pc' := 173) 84 rfl rfl ?_
        refine z_al0 (pc' := 174) 85 rfl rfl ?_
        refine z_getf (pc' := 177) 86 rfl rfl f_Mo_19_12 (by first | exact pm_f | exact pm_1 | (rw [pm_o (by decide)]; assumption)) (by rfl) ?_
        refine z_al0 (pc' := 178) 87 rfl rfl ?_
        refine z_getf (pc' := 181) 88 rfl rfl f_Mo_140_12 (by first | exact pm_f | exact pm_1 | (rw [pm_o (by decide)]; assumption)) (by rfl) ?_
        rw [hR.2.1]
        refine z_iald (pc' := 182) 89 rfl rfl (by first | exact pm_f | exact pm_1 | (rw [pm_o (by decide)]; assumption)) (by omega) (by decide) ?_
        first | refine z_iaddN (pc' := 183) 90 rfl rfl ?_ | refine z_iadd (pc' := 183) 90 rfl rfl ?_
        refine z_bipush (v := nI 48) (by decide) (pc' := 185) 91 rfl rfl ?_
        first | refine z_isubN (by omega) (pc' := 186) 92 rfl rfl ?_ | refine z_isub (pc' := 186) 92 rfl rfl ?_
        refine z_putf (pc' := 189) 93 rfl rfl f_Mo_149_12 (by first | exact pm_f | exact pm_1 | (rw [pm_o (by decide)]; assumption)) rfl rfl (by rfl) (by rfl) ?_
        dsimp only [List.set]
        rw [mob_9, pm_s0]
        refine z_al0 (pc' := 190) 94 rfl rfl ?_
        refine z_dup rfl (pc' := 191) 95 rfl rfl ?_
        refine z_getf (pc' := 194) 96 rfl rfl f_Mo_140_12 (by first | exact pm_f | exact pm_1 | (rw [pm_o (by decide)]; assumption)) (by rfl) ?_
        rw [(RS_9 hR).2.1]
        refine z_iconst (v := nI 1) (by decide) (pc' := 195) 97 rfl rfl ?_
        first | refine z_iaddN (pc' := 196) 98 rfl rfl ?_ | refine z_iadd (pc' := 196) 98 rfl rfl ?_
        refine z_putf (pc' := 199) 99 rfl rfl f_Mo_140_12 (by first | exact pm_f | exact pm_1 | (rw [pm_o (by decide)]; assumption)) rfl rfl (by rfl) (by rfl) ?_
        dsimp only [List.set]
        rw [mob_8, pm_s0]
        refine z_goto 100 rfl (tgt := 130) rfl ?_
        rw [show rlD b (k + 1) p = rlD b k (p + 1) from if_pos h142.2] at K
        exact l_Mo_digits h92 hb hln h5 k (p + 1) _ _ (by omega) (by omega) (RS_8 (RS_9 hR)) (fun z => by rw [show p + 1 - q = (p - q) + 1 by omega]; refine congrArg nI ?_; show _ = 10 * nuF b q (p - q) + (b (q + (p - q)) - 48); rw [show q + (p - q) = p by omega]; omega) K
      · refine z_al0 (pc' := 160) 78 rfl rfl ?_
        refine z_getf (pc' := 163) 79 rfl rfl f_Mo_149_12 (by first | exact pm_f | exact pm_1 | (rw [pm_o (by decide)]; assumption)) (by rfl) ?_
        rw [hR.2.2.2.1]
        refine z_goto 80 rfl (tgt := 186) rfl ?_
        refine z_putf (pc' := 189) 93 rfl rfl f_Mo_149_12 (by first | exact pm_f | exact pm_1 | (rw [pm_o (by decide)]; assumption)) rfl rfl (by rfl) (by rfl) ?_
        dsimp only [List.set]
        rw [mob_9, pm_s0]
        refine z_al0 (pc' := 190) 94 rfl rfl ?_
        refine z_dup rfl (pc' := 191) 95 rfl rfl ?_
        refine z_getf (pc' := 194) 96 rfl rfl f_Mo_140_12 (by first | exact pm_f | exact pm_1 | (rw [pm_o (by decide)]; assumption)) (by rfl) ?_
        rw [(RS_9 hR).2.1]
        refine z_iconst (v := nI 1) (by decide) (pc' := 195) 97 rfl rfl ?_
        first | refine z_iaddN (pc' := 196) 98 rfl rfl ?_ | refine z_iadd (pc' := 196) 98 rfl rfl ?_
        refine z_putf (pc' := 199) 99 rfl rfl f_Mo_140_12 (by first | exact pm_f | exact pm_1 | (rw [pm_o (by decide)]; assumption)) rfl rfl (by rfl) (by rfl) ?_
        dsimp only [List.set]
        rw [mob_8, pm_s0]
        refine z_goto 100 rfl (tgt := 130) rfl ?_
        rw [show rlD b (k + 1) p = rlD b k (p + 1) from if_pos h142.2] at K
        exact l_Mo_digits h92 hb hln h5 k (p + 1) _ _ (by omega) (by omega) (RS_8 (RS_9 hR)) (fun z => by omega) K
set_option maxHeartbeats 4000000 in
set_option maxRecDepth 100000 in
theorem c_Mo_readsAt {G : zG} {n u : Nat} {ν : Nat → va_E} {b : Nat → Nat} {ln : Nat} (h92 : ν 92 = .inl (0, 200, .inl (fun i => nI (b i)))) (hb : ∀ i, b i ≤ 255) (hln : ln ≤ 200) (tk : Nat → Nat) {s0 m : Nat → Int32} {j e : Nat} (h5 : s0 5 = nI ln) (he : e ≤ ln) (h8 : s0 8 = nI e) (hj : j ≤ NF b ln) (hp : sk b (ln - e) e = tpF b ln j) : zMet G 3 M_Mo_reads [.ref 88] n u (pm ν s0 m) n u (fun r μ' => r = none ∧ ∃ s' : Nat → Int32, μ' = pm ν s' m ∧ TKs (tcF b ln tk) (tpF b ln) (teF b ln) s' j ∧ ∀ i, (i < 6 ∨ 9 < i) → s' i = s0 i) := by
  have te5 : ∀ {s9 : Nat → Int32} {p9 : Nat} {q9 v9 t9 : Int32}, RS s0 s9 p9 q9 v9 t9 → s9 5 = nI (teF b ln 1000) := fun h => by rw [teF, if_neg (by have := (NF_s b ln).1; omega), h.1 5 (by decide)]; exact h5
  refine z_start (lv := [.ref 88]) K_Mo_reads rfl rfl (Nat.le_refl _) (Nat.le_refl _) (Nat.le_of_ble_eq_true rfl) rfl ?_
  obtain ⟨P, eP⟩ : ∃ P, P = tpF b ln j := ⟨_, rfl⟩
  have hPle : P ≤ ln := by
    rw [eP]
    by_cases e2 : j = NF b ln
    · rw [e2, (NF_s b ln).2.1]; exact Nat.le_refl _
    · have := (NF_s b ln).2.2 j (by omega); omega
  refine l_Mo_skip (q := s0 7) (v := s0 9) (t := s0 6) h92 hb hln h5 (ln - e) e s0 (by omega) ⟨fun _ _ => rfl, h8, rfl, rfl, rfl⟩ (fun s hR => ?_)
  rw [hp, ← eP] at hR
  obtain ⟨t, et⟩ : ∃ t, t = s0 6 := ⟨_, rfl⟩
  rw [← et] at hR
  refine z_al0 (pc' := 29) 14 rfl rfl ?_
  refine z_al0 (pc' := 30) 15 rfl rfl ?_
  refine z_getf (pc' := 33) 16 rfl rfl f_Mo_140_12 (by first | exact pm_f | exact pm_1 | (rw [pm_o (by decide)]; assumption)) (by rfl) ?_
  rw [hR.2.1]
  refine z_putf (pc' := 36) 17 rfl rfl f_Mo_137_12 (by first | exact pm_f | exact pm_1 | (rw [pm_o (by decide)]; assumption)) rfl rfl (by rfl) (by rfl) ?_
  dsimp only [List.set]
  rw [mob_7, pm_s0]
  refine z_al0 (pc' := 37) 18 rfl rfl ?_
  refine z_iconst (v := nI 0) (by decide) (pc' := 38) 19 rfl rfl ?_
  refine z_putf (pc' := 41) 20 rfl rfl f_Mo_149_12 (by first | exact pm_f | exact pm_1 | (rw [pm_o (by decide)]; assumption)) rfl rfl (by rfl) (by rfl) ?_
  dsimp only [List.set]
  rw [mob_9, pm_s0]
  obtain ⟨s1, es1⟩ : ∃ x, x = un (un s 7 (nI P)) 9 (nI 0) := ⟨_, rfl⟩
  rw [← es1]
  have hR1 : RS s0 s1 P (nI P) (nI 0) t := by rw [es1]; exact RS_9 (RS_7 hR)
  refine z_al0 (pc' := 42) 21 rfl rfl ?_
  refine z_getf (pc' := 45) 22 rfl rfl f_Mo_140_12 (by first | exact pm_f | exact pm_1 | (rw [pm_o (by decide)]; assumption)) (by rfl) ?_
  rw [hR1.2.1]
  refine z_al0 (pc' := 46) 23 rfl rfl ?_
  refine z_getf (pc' := 49) 24 rfl rfl f_Mo_128_12 (by first | exact pm_f | exact pm_1 | (rw [pm_o (by decide)]; assumption)) (by rfl) ?_
  rw [((hR1.1 5 (by decide)).trans h5)]
  first | refine z_icmp_neN (pc' := 52) 25 rfl rfl (tgt := 61) rfl (by omega) (by omega) (fun h49 => ?_) (fun h49 => ?_) | refine z_icmp_ne (pc' := 52) 25 rfl rfl (tgt := 61) rfl (fun h49 => ?_) (fun h49 => ?_)
  · have hjN : j < NF b ln := by
      refine Classical.byContradiction (fun z => ?_)
      have e2 : j = NF b ln := by omega
      rw [e2, (NF_s b ln).2.1] at eP
      omega
    have hPl : P < ln := by omega
    have etc : (tcF b ln tk) j = tkF b ln P := by rw [tcF, if_pos hjN, ← eP]
    have ete : teF b ln j = enF b ln P := by rw [teF, if_pos hjN, ← eP]
    obtain ⟨hen1, hen2⟩ := enF_b (b := b) hPl
    refine z_al0 (pc' := 62) 30 rfl rfl ?_
    refine z_al0 (pc' := 63) 31 rfl rfl ?_
    refine z_getf (pc' := 66) 32 rfl rfl f_Mo_140_12 (by first | exact pm_f | exact pm_1 | (rw [pm_o (by decide)]; assumption)) (by rfl) ?_
    rw [hR1.2.1]
    refine z_bipush (v := nI 97) (by decide) (pc' := 68) 33 rfl rfl ?_
    refine z_bipush (v := nI 122) (by decide) (pc' := 70) 34 rfl rfl ?_
    refine z_callV1 (pc' := 73) 35 rfl rfl k_Mo_146 (by first | exact pm_f | exact pm_1 | (rw [pm_o (by decide)]; assumption)) (c_Mo_isByte h92 hb hln ((hR1.1 5 (by decide)).trans h5) (by omega) (by decide) (by decide)) (by decide) (Nat.le_refl _) (Nat.le_refl _) rfl rfl (Nat.le_of_ble_eq_true rfl) ?_
    first | refine z_if_eqB (pc' := 76) 36 rfl rfl (tgt := 115) rfl (fun h73 => ?_) (fun h73 => ?_) | refine z_if_eqN (pc' := 76) 36 rfl rfl (tgt := 115) rfl (by omega) (fun h73 => ?_) (fun h73 => ?_) | refine z_if_eq (pc' := 76) 36 rfl rfl (tgt := 115) rfl (fun h73 => ?_) (fun h73 => ?_)
    · refine z_al0 (pc' := 116) 56 rfl rfl ?_
      refine z_al0 (pc' := 117) 57 rfl rfl ?_
      refine z_getf (pc' := 120) 58 rfl rfl f_Mo_140_12 (by first | exact pm_f | exact pm_1 | (rw [pm_o (by decide)]; assumption)) (by rfl) ?_
      rw [hR1.2.1]
      refine z_bipush (v := nI 48) (by decide) (pc' := 122) 59 rfl rfl ?_
      refine z_bipush (v := nI 57) (by decide) (pc' := 124) 60 rfl rfl ?_
      refine z_callV1 (pc' := 127) 61 rfl rfl k_Mo_146 (by first | exact pm_f | exact pm_1 | (rw [pm_o (by decide)]; assumption)) (c_Mo_isByte h92 hb hln ((hR1.1 5 (by decide)).trans h5) (by omega) (by decide) (by decide)) (by decide) (Nat.le_refl _) (Nat.le_refl _) rfl rfl (Nat.le_of_ble_eq_true rfl) ?_
      first | refine z_if_eqB (pc' := 130) 62 rfl rfl (tgt := 229) rfl (fun h127 => ?_) (fun h127 => ?_) | refine z_if_eqN (pc' := 130) 62 rfl rfl (tgt := 229) rfl (by omega) (fun h127 => ?_) (fun h127 => ?_) | refine z_if_eq (pc' := 130) 62 rfl rfl (tgt := 229) rfl (fun h127 => ?_) (fun h127 => ?_)
      · have eL : ¬ isL (b P) := fun z => h73 ⟨hPl, z⟩
        have eD : ¬ isD (b P) := fun z => h127 ⟨hPl, z⟩
        have hbP := hb P
        refine z_al0 (pc' := 230) 114 rfl rfl ?_
        refine z_al0 (pc' := 231) 115 rfl rfl ?_
        refine z_getf (pc' := 234) 116 rfl rfl f_Mo_19_12 (by first | exact pm_f | exact pm_1 | (rw [pm_o (by decide)]; assumption)) (by rfl) ?_
        refine z_al0 (pc' := 235) 117 rfl rfl ?_
        refine z_getf (pc' := 238) 118 rfl rfl f_Mo_140_12 (by first | exact pm_f | exact pm_1 | (rw [pm_o (by decide)]; assumption)) (by rfl) ?_
        rw [hR1.2.1]
        refine z_iald (pc' := 239) 119 rfl rfl (by first | exact pm_f | exact pm_1 | (rw [pm_o (by decide)]; assumption)) (by omega) (by decide) ?_
        refine z_callS1 (pc' := 242) 120 rfl rfl k_Mo_159 (c_Mo_signOf (hb P)) (by decide) (Nat.le_refl _) (Nat.le_refl _) rfl rfl (Nat.le_of_ble_eq_true rfl) ?_
        refine z_putf (pc' := 245) 121 rfl rfl f_Mo_152_12 (by first | exact pm_f | exact pm_1 | (rw [pm_o (by decide)]; assumption)) rfl rfl (by rfl) (by rfl) ?_
        dsimp only [List.set]
        rw [mob_6, pm_s0]
        have hR3 := RS_6 (t' := nI (mtk (syF (b P)))) hR1
        refine z_al0 (pc' := 246) 122 rfl rfl ?_
        refine z_al0 (pc' := 247) 123 rfl rfl ?_
        refine z_getf (pc' := 250) 124 rfl rfl f_Mo_19_12 (by first | exact pm_f | exact pm_1 | (rw [pm_o (by decide)]; assumption)) (by rfl) ?_
        refine z_al0 (pc' := 251) 125 rfl rfl ?_
        refine z_getf (pc' := 254) 126 rfl rfl f_Mo_140_12 (by first | exact pm_f | exact pm_1 | (rw [pm_o (by decide)]; assumption)) (by rfl) ?_
        rw [hR3.2.1]
        refine z_iald (pc' := 255) 127 rfl rfl (by first | exact pm_f | exact pm_1 | (rw [pm_o (by decide)]; assumption)) (by omega) (by decide) ?_
        refine z_putf (pc' := 258) 128 rfl rfl f_Mo_149_12 (by first | exact pm_f | exact pm_1 | (rw [pm_o (by decide)]; assumption)) rfl rfl (by rfl) (by rfl) ?_
        dsimp only [List.set]
        rw [mob_9, pm_s0]
        have hR4 := RS_9 (v' := nI (b P)) hR3
        refine z_al0 (pc' := 259) 129 rfl rfl ?_
        refine z_dup rfl (pc' := 260) 130 rfl rfl ?_
        refine z_getf (pc' := 263) 131 rfl rfl f_Mo_140_12 (by first | exact pm_f | exact pm_1 | (rw [pm_o (by decide)]; assumption)) (by rfl) ?_
        rw [hR4.2.1]
        refine z_iconst (v := nI 1) (by decide) (pc' := 264) 132 rfl rfl ?_
        first | refine z_iaddN (pc' := 265) 133 rfl rfl ?_ | refine z_iadd (pc' := 265) 133 rfl rfl ?_
        refine z_putf (pc' := 268) 134 rfl rfl f_Mo_140_12 (by first | exact pm_f | exact pm_1 | (rw [pm_o (by decide)]; assumption)) rfl rfl (by rfl) (by rfl) ?_
        dsimp only [List.set]
        rw [mob_8, pm_s0]
        have hR6 := RS_8 (p' := P + 1) hR4
        exact z_return 135 rfl rfl rfl rfl (by exact ⟨rfl, _, rfl, ⟨by rw [hR6.2.2.2.2, etc, tkF, if_neg eL, if_neg eD], by rw [etc, tkF, if_neg eL, if_neg eD]; exact fun z => hR6.2.2.2.1.trans (congrArg nI (sy_v z)), by rw [hR6.2.2.1, ← eP], by rw [hR6.2.1, ete, enF_s eL eD], te5 hR6⟩, hR6.1⟩)
      · have eL : ¬ isL (b P) := fun z => h73 ⟨hPl, z⟩
        refine l_Mo_digits h92 hb hln h5 (ln - P) P s1 (nI 0) (by omega) (Nat.le_refl _) hR1 (fun _ => by rw [Nat.sub_self]; rfl) (fun s2 v2 hR2 hV => ?_)
        rw [rlD_q hPl h127.2] at hR2 hV
        refine z_al0 (pc' := 203) 101 rfl rfl ?_
        refine z_al0 (pc' := 204) 102 rfl rfl ?_
        refine z_getf (pc' := 207) 103 rfl rfl f_Mo_140_12 (by first | exact pm_f | exact pm_1 | (rw [pm_o (by decide)]; assumption)) (by rfl) ?_
        rw [hR2.2.1]
        refine z_al0 (pc' := 208) 104 rfl rfl ?_
        refine z_getf (pc' := 211) 105 rfl rfl f_Mo_137_12 (by first | exact pm_f | exact pm_1 | (rw [pm_o (by decide)]; assumption)) (by rfl) ?_
        rw [hR2.2.2.1]
        first | refine z_isubN (by omega) (pc' := 212) 106 rfl rfl ?_ | refine z_isub (pc' := 212) 106 rfl rfl ?_
        refine z_iconst (v := nI 4) (by decide) (pc' := 213) 107 rfl rfl ?_
        first | refine z_icmp_leN (pc' := 216) 108 rfl rfl (tgt := 221) rfl (by omega) (by omega) (fun h213 => ?_) (fun h213 => ?_) | refine z_icmp_le (pc' := 216) 108 rfl rfl (tgt := 221) rfl (fun h213 => ?_) (fun h213 => ?_)
        · refine z_bipush (v := nI 20) (by decide) (pc' := 223) 111 rfl rfl ?_
          refine z_putf (pc' := 226) 112 rfl rfl f_Mo_152_12 (by first | exact pm_f | exact pm_1 | (rw [pm_o (by decide)]; assumption)) rfl rfl (by rfl) (by rfl) ?_
          dsimp only [List.set]
          rw [mob_6, pm_s0]
          have hR6 := RS_6 (t' := nI 20) hR2
          refine z_goto 113 rfl (tgt := 268) rfl ?_
          exact z_return 135 rfl rfl rfl rfl (by have e4 : ¬ 4 < enF b ln P - P := (by omega); have ev : 100 ≤ 100 + nuF b P (enF b ln P - P) := (by omega); exact ⟨rfl, _, rfl, ⟨by rw [hR6.2.2.2.2, etc, tkF, if_neg eL, if_pos h127.2, if_neg e4, mtk_b ev], by rw [etc, tkF, if_neg eL, if_pos h127.2, if_neg e4]; exact fun _ => by rw [hR6.2.2.2.1, hV (by omega), mvl, if_pos ev]; exact congrArg nI (by omega), by rw [hR6.2.2.1, ← eP], by rw [hR6.2.1, ete], te5 hR6⟩, hR6.1⟩)
        · refine z_bipush (v := nI 26) (by decide) (pc' := 218) 109 rfl rfl ?_
          refine z_goto 110 rfl (tgt := 223) rfl ?_
          refine z_putf (pc' := 226) 112 rfl rfl f_Mo_152_12 (by first | exact pm_f | exact pm_1 | (rw [pm_o (by decide)]; assumption)) rfl rfl (by rfl) (by rfl) ?_
          dsimp only [List.set]
          rw [mob_6, pm_s0]
          have hR6 := RS_6 (t' := nI 26) hR2
          refine z_goto 113 rfl (tgt := 268) rfl ?_
          exact z_return 135 rfl rfl rfl rfl (by have e4 : 4 < enF b ln P - P := (by omega); exact ⟨rfl, _, rfl, ⟨by rw [hR6.2.2.2.2, etc, tkF, if_neg eL, if_pos h127.2, if_pos e4]; rfl, by rw [etc, tkF, if_neg eL, if_pos h127.2, if_pos e4]; exact fun z => absurd z (by decide), by rw [hR6.2.2.1, ← eP], by rw [hR6.2.1, ete], te5 hR6⟩, hR6.1⟩)
    · refine l_Mo_letters h92 hb hln h5 (ln - P) P s1 (by omega) hR1 (fun s2 hR2 => ?_)
      rw [rlL_q hPl h73.2] at hR2
      refine z_al0 (pc' := 105) 51 rfl rfl ?_
      refine z_al0 (pc' := 106) 52 rfl rfl ?_
      refine z_callV1 (pc' := 109) 53 rfl rfl k_Mo_155 (by first | exact pm_f | exact pm_1 | (rw [pm_o (by decide)]; assumption)) (c_Mo_wordHere h92 hb hln hR2.2.2.1 (by rw [hR2.2.1, show P + (enF b ln P - P) = enF b ln P by omega]) (by omega) (fun i hi => run_L (ln := ln) h73.2 i (by omega))) (by decide) (Nat.le_refl _) (Nat.le_refl _) rfl rfl (Nat.le_of_ble_eq_true rfl) ?_
      refine z_putf (pc' := 112) 54 rfl rfl f_Mo_152_12 (by first | exact pm_f | exact pm_1 | (rw [pm_o (by decide)]; assumption)) rfl rfl (by rfl) (by rfl) ?_
      dsimp only [List.set]
      rw [mob_6, pm_s0]
      have hR6 := RS_6 (t' := nI (mtk (fW b P (enF b ln P - P) 18 0))) hR2
      refine z_goto 55 rfl (tgt := 268) rfl ?_
      exact z_return 135 rfl rfl rfl rfl (by exact ⟨rfl, _, rfl, ⟨by rw [hR6.2.2.2.2, etc, tkF, if_pos h73.2], by rw [etc, tkF, if_pos h73.2]; exact fun z => absurd z fW_ns, by rw [hR6.2.2.1, ← eP], by rw [hR6.2.1, ete], te5 hR6⟩, hR6.1⟩)
  · have eN : j = NF b ln := Classical.byContradiction (fun z => by have := (NF_s b ln).2.2 j (by omega); omega)
    have eN25 : (tcF b ln tk) j = 25 := by rw [tcF, if_neg (by omega), if_pos eN]
    have eNe : P = teF b ln j := by rw [teF, if_neg (by omega)]; exact h49
    refine z_al0 (pc' := 53) 26 rfl rfl ?_
    refine z_bipush (v := nI 25) (by decide) (pc' := 55) 27 rfl rfl ?_
    refine z_putf (pc' := 58) 28 rfl rfl f_Mo_152_12 (by first | exact pm_f | exact pm_1 | (rw [pm_o (by decide)]; assumption)) rfl rfl (by rfl) (by rfl) ?_
    dsimp only [List.set]
    rw [mob_6, pm_s0]
    have hR6 := RS_6 (t' := nI 25) hR1
    refine z_goto 29 rfl (tgt := 268) rfl ?_
    exact z_return 135 rfl rfl rfl rfl (by exact ⟨rfl, _, rfl, ⟨by rw [hR6.2.2.2.2, eN25]; rfl, by rw [eN25]; exact fun z => absurd z (by decide), by rw [hR6.2.2.1, ← eP], by rw [hR6.2.1, ← eNe], te5 hR6⟩, hR6.1⟩)
theorem rdS_of {G : zG} {n u : Nat} {ν : Nat → va_E} {b : Nat → Nat} {ln : Nat} (h92 : ν 92 = .inl (0, 200, .inl (fun i => nI (b i)))) (hb : ∀ i, b i ≤ 255) (hln : ln ≤ 200) (tk : Nat → Nat) : rdS G n u ν (tcF b ln tk) (tpF b ln) (teF b ln) (NF b ln) := by
  intro s m j hj hk
  have h5 : s 5 = nI ln := by rw [hk.2.2.2.2, teF, if_neg (by have := (NF_s b ln).1; omega)]
  have hl := (NF_s b ln).2.2 j hj
  obtain ⟨hen1, hen2⟩ := enF_b (b := b) hl
  refine c_Mo_readsAt h92 hb hln tk (e := enF b ln (tpF b ln j)) h5 hen2 ?_ (by omega) (tp_sk hl)
  rw [hk.2.2.2.1, teF, if_pos hj]
