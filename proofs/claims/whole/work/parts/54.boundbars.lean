def lsI (F : Nat) : Int32 := if F = 5 then -3 else nI F
theorem lsI_lt {F : Nat} (h : F ≤ 5) : lsI F < 0 ↔ F = 5 := by
  unfold lsI
  split
  · rename_i e; exact ⟨fun _ => e, fun _ => by decide⟩
  · rename_i e; exact ⟨fun z => absurd z (nI_pos (by omega)), fun z => absurd z e⟩
theorem lsI_n {F : Nat} (h : F ≠ 5) : lsI F = nI F := if_neg h
theorem fw_no {set : Int32} {ps h F : Nat} (e : ¬ set &&& (nI ps ^^^ (-1)) = 0) : fwS set ps h F = F := if_neg (fun z => e z.1)
theorem fw_ge {set : Int32} {ps h F : Nat} (e : F ≤ h) : fwS set ps h F = F := if_neg (fun z => by have := z.2; omega)
theorem fw_lt {set : Int32} {ps h F : Nat} (e : set &&& (nI ps ^^^ (-1)) = 0) (k : h < F) : fwS set ps h F = h := if_pos ⟨e, k⟩
theorem fw_5 {set : Int32} {ps h F : Nat} (hh : h ≤ 4) (hF : F ≤ 5) : fwS set ps h F ≤ 5 := by
  unfold fwS
  split <;> omega
theorem sr_fw {S : Nat → Nat → Nat} {D : zD6} {set : Int32} {K : Nat} {t : zT3} (hK : K ≤ 4) : (srF S D set K t).2.1 ≤ 5 := by
  unfold srF
  refine fdN_inv (P := fun s : zSr => s.2.1 ≤ 5) (fun p s q => ?_) _ _ _ (Nat.le_refl _)
  have := hdA_le (N := S 0 0 + 1) K p 0
  exact fw_5 (by omega) q
set_option maxHeartbeats 4000000 in
set_option maxRecDepth 100000 in
theorem c_Mo_isSet {G : zG} {n u : Nat} {ν : Nat → va_E} {s : Nat → Int32} {S : Nat → Nat → Nat} {mo : Nat} {pr fa : Nat → Nat} {sc ch : Int32} {rc : Nat} {ρ : Nat → Int32} (hi : iS S) (x : Int32) : zMet G 1 M_Mo_isSet [.ref 88, .int x] n u (pm ν s (mk S mo pr fa sc ch rc ρ)) n u (zE (some (.int (zbo (nI 0 ≤ x ∧ x ≤ nI (2 ^ S 0 0 - 1))))) (pm ν s (mk S mo pr fa sc ch rc ρ))) := by
  have hi0 := hi.1
  have hp3 : 0 < 2 ^ S 0 0 := Nat.two_pow_pos _
  refine z_start (lv := [.ref 88, .int x]) K_Mo_isSet rfl rfl (Nat.le_refl _) (Nat.le_refl _) (Nat.le_of_ble_eq_true rfl) rfl ?_
  refine z_il1 (pc' := 1) 0 rfl rfl ?_
  refine z_iconst (v := nI 0) (by decide) (pc' := 2) 1 rfl rfl ?_
  refine z_iconst (v := nI 1) (by decide) (pc' := 3) 2 rfl rfl ?_
  refine z_al0 (pc' := 4) 3 rfl rfl ?_
  refine z_getf (pc' := 7) 4 rfl rfl f_Mo_9_12 (by first | exact pm_f | exact pm_1 | (rw [pm_o (by decide)]; assumption)) (by rfl) ?_
  refine z_iconst (v := nI 3) (by decide) (pc' := 8) 5 rfl rfl ?_
  refine z_iald (pc' := 9) 6 rfl rfl (by first | exact pm_f | exact pm_1 | (rw [pm_o (by decide)]; assumption)) (by omega) (by decide) ?_
  rw [mk_3]
  refine z_ishl (pc' := 10) 7 rfl rfl ?_
  rw [nb_shl1 (by omega)]
  refine z_iconst (v := nI 1) (by decide) (pc' := 11) 8 rfl rfl ?_
  first | refine z_isubN (by omega) (pc' := 12) 9 rfl rfl ?_ | refine z_isub (pc' := 12) 9 rfl rfl ?_
  refine z_callS1 (pc' := 15) 10 rfl rfl k_Mo_67 (c_Mo_in _ _ _) (by decide) (Nat.le_refl _) (Nat.le_refl _) rfl rfl (Nat.le_of_ble_eq_true rfl) ?_
  exact z_ireturn 11 rfl rfl (by first | rfl | exact zbo_nar) rfl rfl (by exact ⟨rfl, rfl⟩)
set_option maxHeartbeats 4000000 in
set_option maxRecDepth 100000 in
theorem l_Mo_actsIn {G : zG} {n u : Nat} {ν : Nat → va_E} {s : Nat → Int32} {S : Nat → Nat → Nat} {mo : Nat} {pr fa : Nat → Nat} {sc ch : Int32} {rc : Nat} {ρ : Nat → Int32} (hi : iS S) {P K : Nat} (hP : P < 2 ^ 31) (hK : K ≤ 4) : ∀ r k a, k + r = K → a + r ≤ 100 → zW G 1 M_Mo_actsIn 5 [.ref 88, .int (nI P), .int (nI K), .int (nI a), .int (nI k)] [] n u (pm ν s (mk S mo pr fa sc ch rc ρ)) n u (zE (some (.int (nI (hdA (S 0 0 + 1) r P a)))) (pm ν s (mk S mo pr fa sc ch rc ρ)))
  | 0, k, a, e, ha => by
    refine z_il4 (pc' := 7) 4 rfl rfl ?_
    refine z_il2 (pc' := 8) 5 rfl rfl ?_
    first | refine z_icmp_geN (pc' := 11) 6 rfl rfl (tgt := 43) rfl (by omega) (by omega) (fun h8 => ?_) (fun h8 => ?_) | refine z_icmp_ge (pc' := 11) 6 rfl rfl (tgt := 43) rfl (fun h8 => ?_) (fun h8 => ?_)
    · refine z_il3 (pc' := 44) 26 rfl rfl ?_
      exact z_ireturn 27 rfl rfl (by first | rfl | exact zbo_nar) rfl rfl (by exact ⟨rfl, rfl⟩)
    · exfalso; omega
  | r + 1, k, a, e, ha => by
    have hi0 := hi.1
    have hd := dgt_lt (N := S 0 0 + 1) (r := r) (p := P) (by omega)
    refine z_il4 (pc' := 7) 4 rfl rfl ?_
    refine z_il2 (pc' := 8) 5 rfl rfl ?_
    first | refine z_icmp_geN (pc' := 11) 6 rfl rfl (tgt := 43) rfl (by omega) (by omega) (fun h8 => ?_) (fun h8 => ?_) | refine z_icmp_ge (pc' := 11) 6 rfl rfl (tgt := 43) rfl (fun h8 => ?_) (fun h8 => ?_)
    · exfalso; omega
    · refine z_il3 (pc' := 12) 7 rfl rfl ?_
      refine z_il1 (pc' := 13) 8 rfl rfl ?_
      refine z_al0 (pc' := 14) 9 rfl rfl ?_
      refine z_getf (pc' := 17) 10 rfl rfl f_Mo_9_12 (by first | exact pm_f | exact pm_1 | (rw [pm_o (by decide)]; assumption)) (by rfl) ?_
      refine z_iconst (v := nI 3) (by decide) (pc' := 18) 11 rfl rfl ?_
      refine z_iald (pc' := 19) 12 rfl rfl (by first | exact pm_f | exact pm_1 | (rw [pm_o (by decide)]; assumption)) (by omega) (by decide) ?_
      rw [mk_3]
      refine z_iconst (v := nI 1) (by decide) (pc' := 20) 13 rfl rfl ?_
      first | refine z_iaddN (pc' := 21) 14 rfl rfl ?_ | refine z_iadd (pc' := 21) 14 rfl rfl ?_
      refine z_il4 (pc' := 23) 15 rfl rfl ?_
      refine z_il2 (pc' := 24) 16 rfl rfl ?_
      refine z_callS1 (pc' := 27) 17 rfl rfl k_Mo_257 (c_Mo_digit (by omega) (by omega) (by omega) hP (by omega)) (by decide) (Nat.le_refl _) (Nat.le_refl _) rfl rfl (Nat.le_of_ble_eq_true rfl) ?_
      rw [show K - 1 - k = r by omega]
      first | refine z_if_leN (pc' := 30) 18 rfl rfl (tgt := 34) rfl (by omega) (fun h27 => ?_) (fun h27 => ?_) | refine z_if_le (pc' := 30) 18 rfl rfl (tgt := 34) rfl (fun h27 => ?_) (fun h27 => ?_)
      · refine z_iconst (v := nI 0) (by decide) (pc' := 35) 21 rfl rfl ?_
        first | refine z_iaddN (pc' := 36) 22 rfl rfl ?_ | refine z_iadd (pc' := 36) 22 rfl rfl ?_
        refine z_is3 rfl rfl (pc' := 37) 23 rfl rfl ?_
        first | refine z_inc4N rfl rfl (pc' := 40) 24 rfl rfl ?_ | refine z_inc4 rfl rfl rfl (pc' := 40) 24 rfl rfl ?_
        refine z_goto 25 rfl (tgt := 5) rfl ?_
        have e9 := l_Mo_actsIn (G := G) (n := n) (u := u) (ν := ν) (s := s) (mo := mo) (pr := pr) (fa := fa) (sc := sc) (ch := ch) (rc := rc) (ρ := ρ) hi hP hK r (k + 1) (a + 0) (by omega) (by omega)
        rw [show hdA (S 0 0 + 1) r P (a + 0) = hdA (S 0 0 + 1) (r + 1) P a by rw [hdA, if_pos (by omega)]; all_goals (first | rfl | omega)] at e9
        exact e9
      · refine z_iconst (v := nI 1) (by decide) (pc' := 31) 19 rfl rfl ?_
        refine z_goto 20 rfl (tgt := 35) rfl ?_
        first | refine z_iaddN (pc' := 36) 22 rfl rfl ?_ | refine z_iadd (pc' := 36) 22 rfl rfl ?_
        refine z_is3 rfl rfl (pc' := 37) 23 rfl rfl ?_
        first | refine z_inc4N rfl rfl (pc' := 40) 24 rfl rfl ?_ | refine z_inc4 rfl rfl rfl (pc' := 40) 24 rfl rfl ?_
        refine z_goto 25 rfl (tgt := 5) rfl ?_
        have e9 := l_Mo_actsIn (G := G) (n := n) (u := u) (ν := ν) (s := s) (mo := mo) (pr := pr) (fa := fa) (sc := sc) (ch := ch) (rc := rc) (ρ := ρ) hi hP hK r (k + 1) (a + 1) (by omega) (by omega)
        rw [show hdA (S 0 0 + 1) r P (a + 1) = hdA (S 0 0 + 1) (r + 1) P a by rw [hdA, if_neg (by omega)]; all_goals (first | rfl | omega)] at e9
        exact e9
set_option maxHeartbeats 4000000 in
set_option maxRecDepth 100000 in
theorem c_Mo_actsIn {G : zG} {n u : Nat} {ν : Nat → va_E} {s : Nat → Int32} {S : Nat → Nat → Nat} {mo : Nat} {pr fa : Nat → Nat} {sc ch : Int32} {rc : Nat} {ρ : Nat → Int32} (hi : iS S) {P K : Nat} (hP : P < 2 ^ 31) (hK : K ≤ 4) : zMet G 1 M_Mo_actsIn [.ref 88, .int (nI P), .int (nI K)] n u (pm ν s (mk S mo pr fa sc ch rc ρ)) n u (zE (some (.int (nI (hdA (S 0 0 + 1) K P 0)))) (pm ν s (mk S mo pr fa sc ch rc ρ))) := by
  refine z_start (lv := [.ref 88, .int (nI P), .int (nI K), .retAddr 0, .retAddr 0]) K_Mo_actsIn rfl rfl (Nat.le_refl _) (Nat.le_refl _) (Nat.le_of_ble_eq_true rfl) rfl ?_
  refine z_iconst (v := nI 0) (by decide) (pc' := 1) 0 rfl rfl ?_
  refine z_is3 rfl rfl (pc' := 2) 1 rfl rfl ?_
  refine z_iconst (v := nI 0) (by decide) (pc' := 3) 2 rfl rfl ?_
  refine z_is4 rfl rfl (pc' := 5) 3 rfl rfl ?_
  exact l_Mo_actsIn hi hP hK K 0 0 (by omega) (by omega)
set_option maxHeartbeats 4000000 in
set_option maxRecDepth 100000 in
theorem l_Mo_bound {G : zG} {n u : Nat} {Φ : zP} {ν : Nat → va_E} {s : Nat → Int32} {S : Nat → Nat → Nat} {ch : Int32} {rc : Nat} {ρ : Nat → Int32} {D : zD6} (hi : iS S) (hD : dzM ρ rc D) {K : Nat} (hK : K ≤ 4) {mo : Nat} {pr fa : Nat → Nat} {sc : Int32} (hm : mo + K ≤ 16) (hx : iX S pr fa) {set : Int32} {x0 : Value} : ∀ c b (s1 q : Nat → Int32) (y : Int32) (σ : zSr), b + c = (S 0 0 + 1) ^ K → sEq s s1 → y = lsI σ.2.1 → σ.2.1 ≤ 5 →
    (∀ (s2 q2 : Nat → Int32) y' i' j' k', sEq s s2 → y' = lsI (fdN (lfS S D set K 0 0 (mo, pr, fa)) (c) (b) σ).2.1 → zW G 7 M_Mo_bound 117 [.ref 88, x0, .int set, .int (nI K), .int (nI ((S 0 0 + 1) ^ K)), .int y', i', j', k'] [] n u (pm (zu (zu ν 91 (.inl (0, 618, .inl (mk S mo pr fa sc ch rc ρ)))) 93 (.inl (1, 100, .inl q2))) s2 (mk S mo pr fa sc ch rc ρ)) n u Φ) →
    zW G 7 M_Mo_bound 43 [.ref 88, x0, .int set, .int (nI K), .int (nI ((S 0 0 + 1) ^ K)), .int y, .int (nI b), .retAddr 0, .retAddr 0] [] n u (pm (zu (zu ν 91 (.inl (0, 618, .inl (mk S mo pr fa sc ch rc ρ)))) 93 (.inl (1, 100, .inl q))) s1 (mk S mo pr fa sc ch rc ρ)) n u Φ
  | 0, b, s1, q, y, σ, e, hs, ky, k5, Kk => by
    have hN := N4 hi.1 hK
    refine z_il6 (pc' := 45) 25 rfl rfl ?_
    refine z_il4 (pc' := 47) 26 rfl rfl ?_
    first | refine z_icmp_geN (pc' := 50) 27 rfl rfl (tgt := 117) rfl (by omega) (by omega) (fun h47 => ?_) (fun h47 => ?_) | refine z_icmp_ge (pc' := 50) 27 rfl rfl (tgt := 117) rfl (fun h47 => ?_) (fun h47 => ?_)
    · exact Kk _ _ _ _ _ _ hs ky
    · exfalso; omega
  | c + 1, b, s1, q, y, σ, e, hs, ky, k5, Kk => by
    have hN := N4 hi.1 hK
    have hh := hdA_le (N := S 0 0 + 1) K b 0
    refine z_il6 (pc' := 45) 25 rfl rfl ?_
    refine z_il4 (pc' := 47) 26 rfl rfl ?_
    first | refine z_icmp_geN (pc' := 50) 27 rfl rfl (tgt := 117) rfl (by omega) (by omega) (fun h47 => ?_) (fun h47 => ?_) | refine z_icmp_ge (pc' := 50) 27 rfl rfl (tgt := 117) rfl (fun h47 => ?_) (fun h47 => ?_)
    · exfalso; omega
    · refine z_al0 (pc' := 51) 28 rfl rfl ?_
      refine z_il6 (pc' := 53) 29 rfl rfl ?_
      refine z_il3 (pc' := 54) 30 rfl rfl ?_
      refine z_callVX1 (pc' := 57) 31 rfl rfl k_Mo_272 (by first | exact pm_f | exact pm_1 | (rw [pm_o (by decide)]; first | exact zu_s | (rw [zu_n (by decide)]; first | exact zu_s | (rw [zu_n (by decide)]; assumption)))) (c_Mo_worthOf hi hD (by omega) hK hm hx) (by decide) (Nat.le_refl _) (Nat.le_refl _) rfl rfl (Nat.le_of_ble_eq_true rfl) (fun q54 => ?_)
      refine z_pop rfl (pc' := 58) 32 rfl rfl ?_
      refine z_al0 (pc' := 59) 33 rfl rfl ?_
      refine z_il6 (pc' := 61) 34 rfl rfl ?_
      refine z_il3 (pc' := 62) 35 rfl rfl ?_
      refine z_callV1 (pc' := 65) 36 rfl rfl k_Mo_287 (by first | exact pm_f | exact pm_1 | (rw [pm_o (by decide)]; first | exact zu_s | (rw [zu_n (by decide)]; first | exact zu_s | (rw [zu_n (by decide)]; assumption)))) (c_Mo_actsIn hi (by omega) hK) (by decide) (Nat.le_refl _) (Nat.le_refl _) rfl rfl (Nat.le_of_ble_eq_true rfl) ?_
      refine z_is7 rfl rfl (pc' := 67) 37 rfl rfl ?_
      refine z_il2 (pc' := 68) 38 rfl rfl ?_
      refine z_al0 (pc' := 69) 39 rfl rfl ?_
      refine z_getf (pc' := 72) 40 rfl rfl f_Mo_263_12 (by first | exact pm_f | exact pm_1 | (rw [pm_o (by decide)]; first | exact zu_s | (rw [zu_n (by decide)]; first | exact zu_s | (rw [zu_n (by decide)]; assumption)))) (by rfl) ?_
      refine z_te (show _ = nI (psN (rnA S D K b 0 (mo, pr, fa)).2.2.1 (S 0 0)) from rfl) ?_
      refine z_iconst (v := (-1)) (by decide) (pc' := 73) 41 rfl rfl ?_
      refine z_ixor (pc' := 74) 42 rfl rfl ?_
      refine z_iand (pc' := 75) 43 rfl rfl ?_
      first | refine z_if_ne (pc' := 78) 44 rfl rfl (tgt := 94) rfl (fun h75 => ?_) (fun h75 => ?_)
      · refine z_iconst (v := nI 0) (by decide) (pc' := 95) 52 rfl rfl ?_
        refine z_is8 rfl rfl (pc' := 97) 53 rfl rfl ?_
        refine z_il8 (pc' := 99) 54 rfl rfl ?_
        refine z_if_eq_t 55 rfl (tgt := 107) rfl rfl ?_
        refine z_il5 (pc' := 109) 58 rfl rfl ?_
        refine z_is5 rfl rfl (pc' := 111) 59 rfl rfl ?_
        first | refine z_inc6N rfl rfl (pc' := 114) 60 rfl rfl ?_ | refine z_inc6 rfl rfl rfl (pc' := 114) 60 rfl rfl ?_
        refine z_goto 61 rfl (tgt := 43) rfl ?_
        refine z_less7 (z_less8 ?_)
        refine l_Mo_bound hi hD hK hm hx c (b + 1) _ _ _ (lfS S D set K 0 0 (mo, pr, fa) b σ) (by omega) (sEq_t hs ⟨rfl, rfl, rfl, rfl⟩) ?_ (fw_5 (by omega) k5) Kk
        show _ = lsI (fwS set (psN (rnA S D K b 0 (mo, pr, fa)).2.2.1 (S 0 0)) (hdA (S 0 0 + 1) K b 0) σ.2.1)
        rw [fw_no h75]
        exact ky
      · refine z_il5 (pc' := 80) 45 rfl rfl ?_
        first | refine z_if_lt (pc' := 83) 46 rfl rfl (tgt := 90) rfl (fun h80 => ?_) (fun h80 => ?_)
        · refine z_iconst (v := nI 1) (by decide) (pc' := 91) 50 rfl rfl ?_
          refine z_goto 51 rfl (tgt := 95) rfl ?_
          refine z_is8 rfl rfl (pc' := 97) 53 rfl rfl ?_
          refine z_il8 (pc' := 99) 54 rfl rfl ?_
          refine z_if_eq_f (pc' := 102) 55 rfl rfl (tgt := 107) rfl (by decide) ?_
          refine z_il7 (pc' := 104) 56 rfl rfl ?_
          refine z_goto 57 rfl (tgt := 109) rfl ?_
          refine z_is5 rfl rfl (pc' := 111) 59 rfl rfl ?_
          first | refine z_inc6N rfl rfl (pc' := 114) 60 rfl rfl ?_ | refine z_inc6 rfl rfl rfl (pc' := 114) 60 rfl rfl ?_
          refine z_goto 61 rfl (tgt := 43) rfl ?_
          have hF5 : σ.2.1 = 5 := (lsI_lt k5).mp (by rw [← ky]; exact h80)
          refine z_less7 (z_less8 ?_)
          refine l_Mo_bound hi hD hK hm hx c (b + 1) _ _ _ (lfS S D set K 0 0 (mo, pr, fa) b σ) (by omega) (sEq_t hs ⟨rfl, rfl, rfl, rfl⟩) ?_ (fw_5 (by omega) k5) Kk
          show _ = lsI (fwS set (psN (rnA S D K b 0 (mo, pr, fa)).2.2.1 (S 0 0)) (hdA (S 0 0 + 1) K b 0) σ.2.1)
          rw [fw_lt h75 (by omega)]
          exact (lsI_n (by omega)).symm
        · refine z_il7 (pc' := 85) 47 rfl rfl ?_
          refine z_il5 (pc' := 87) 48 rfl rfl ?_
          first | refine z_icmp_ge (pc' := 90) 49 rfl rfl (tgt := 94) rfl (fun h87 => ?_) (fun h87 => ?_)
          · refine z_iconst (v := nI 0) (by decide) (pc' := 95) 52 rfl rfl ?_
            refine z_is8 rfl rfl (pc' := 97) 53 rfl rfl ?_
            refine z_il8 (pc' := 99) 54 rfl rfl ?_
            refine z_if_eq_t 55 rfl (tgt := 107) rfl rfl ?_
            refine z_il5 (pc' := 109) 58 rfl rfl ?_
            refine z_is5 rfl rfl (pc' := 111) 59 rfl rfl ?_
            first | refine z_inc6N rfl rfl (pc' := 114) 60 rfl rfl ?_ | refine z_inc6 rfl rfl rfl (pc' := 114) 60 rfl rfl ?_
            refine z_goto 61 rfl (tgt := 43) rfl ?_
            have hF5 : σ.2.1 ≠ 5 := fun z => h80 (by rw [ky]; exact (lsI_lt k5).mpr z)
            rw [ky, lsI_n hF5] at h87
            have hge : σ.2.1 ≤ (hdA (S 0 0 + 1) K b 0) := (nI_leI (by omega) (by omega)).mp h87
            refine z_less7 (z_less8 ?_)
            refine l_Mo_bound hi hD hK hm hx c (b + 1) _ _ _ (lfS S D set K 0 0 (mo, pr, fa) b σ) (by omega) (sEq_t hs ⟨rfl, rfl, rfl, rfl⟩) ?_ (fw_5 (by omega) k5) Kk
            show _ = lsI (fwS set (psN (rnA S D K b 0 (mo, pr, fa)).2.2.1 (S 0 0)) (hdA (S 0 0 + 1) K b 0) σ.2.1)
            rw [fw_ge hge]
            exact ky
          · refine z_iconst (v := nI 1) (by decide) (pc' := 91) 50 rfl rfl ?_
            refine z_goto 51 rfl (tgt := 95) rfl ?_
            refine z_is8 rfl rfl (pc' := 97) 53 rfl rfl ?_
            refine z_il8 (pc' := 99) 54 rfl rfl ?_
            refine z_if_eq_f (pc' := 102) 55 rfl rfl (tgt := 107) rfl (by decide) ?_
            refine z_il7 (pc' := 104) 56 rfl rfl ?_
            refine z_goto 57 rfl (tgt := 109) rfl ?_
            refine z_is5 rfl rfl (pc' := 111) 59 rfl rfl ?_
            first | refine z_inc6N rfl rfl (pc' := 114) 60 rfl rfl ?_ | refine z_inc6 rfl rfl rfl (pc' := 114) 60 rfl rfl ?_
            refine z_goto 61 rfl (tgt := 43) rfl ?_
            have hF5 : σ.2.1 ≠ 5 := fun z => h80 (by rw [ky]; exact (lsI_lt k5).mpr z)
            rw [ky, lsI_n hF5] at h87
            have hlt : (hdA (S 0 0 + 1) K b 0) < σ.2.1 := by
              have : ¬ σ.2.1 ≤ (hdA (S 0 0 + 1) K b 0) := fun z => h87 ((nI_leI (by omega) (by omega)).mpr z)
              omega
            refine z_less7 (z_less8 ?_)
            refine l_Mo_bound hi hD hK hm hx c (b + 1) _ _ _ (lfS S D set K 0 0 (mo, pr, fa) b σ) (by omega) (sEq_t hs ⟨rfl, rfl, rfl, rfl⟩) ?_ (fw_5 (by omega) k5) Kk
            show _ = lsI (fwS set (psN (rnA S D K b 0 (mo, pr, fa)).2.2.1 (S 0 0)) (hdA (S 0 0 + 1) K b 0) σ.2.1)
            rw [fw_lt h75 (by omega)]
            exact (lsI_n (by omega)).symm
set_option maxHeartbeats 4000000 in
set_option maxRecDepth 100000 in
theorem c_Mo_bound {G : zG} {n u : Nat} {μ : Nat → va_E} {κ : zκ} {s : Nat → Int32} (h : mst μ s κ) (x y : Int32) :
    zMet G 7 M_Mo_bound [.ref 88, .int x, .int y] n u μ n u (mK μ s (f_bound κ x y, κ)) := by
  obtain ⟨S, mo, pr, fa, sc, ch, rc, D⟩ := κ
  have hst := h
  obtain ⟨⟨ρ, h1, hD⟩, h2, ⟨q93, h93⟩, ⟨q91, h91⟩, ⟨q94, h94⟩, ⟨q95, h95⟩, ⟨q96, h96⟩, ⟨q97, h97⟩, h5⟩ := h
  have hk5 := h5
  obtain ⟨hi, hx, hmo, hrc⟩ := h5
  have hi0 := hi.1
  have hi1 := hi.2.1
  have hi2 := hi.2.2.1
  have hi3 := hi.2.2.2.2.1
  have hm16 : mo ≤ 16 := by omega
  refine z_start (lv := [.ref 88, .int x, .int y, .retAddr 0, .retAddr 0, .retAddr 0, .retAddr 0, .retAddr 0, .retAddr 0]) K_Mo_bound rfl rfl (Nat.le_refl _) (Nat.le_refl _) (Nat.le_of_ble_eq_true rfl) rfl ?_
  refine z_mu (show μ = pm (zu (zu μ 91 (.inl (0, 618, .inl q91))) 93 (.inl (1, 100, .inl q93))) s (mk S mo pr fa sc ch rc ρ) by rw [zu_id h91, zu_id h93, pm_id h2 h1]) ?_
  refine z_il1 (pc' := 1) 0 rfl rfl ?_
  refine z_iconst (v := nI 0) (by decide) (pc' := 2) 1 rfl rfl ?_
  refine z_iconst (v := nI 4) (by decide) (pc' := 3) 2 rfl rfl ?_
  refine z_callS1 (pc' := 6) 3 rfl rfl k_Mo_67 (c_Mo_in _ _ _) (by decide) (Nat.le_refl _) (Nat.le_refl _) rfl rfl (Nat.le_of_ble_eq_true rfl) ?_
  first | refine z_if_eqB (pc' := 9) 4 rfl rfl (tgt := 17) rfl (fun h6 => ?_) (fun h6 => ?_) | refine z_if_eqN (pc' := 9) 4 rfl rfl (tgt := 17) rfl (by omega) (fun h6 => ?_) (fun h6 => ?_) | refine z_if_eq (pc' := 9) 4 rfl rfl (tgt := 17) rfl (fun h6 => ?_) (fun h6 => ?_)
  · refine z_iconst (v := (-1)) (by decide) (pc' := 18) 9 rfl rfl ?_
    exact z_ireturn 10 rfl rfl (by first | rfl | exact zbo_nar) rfl rfl (by show mK μ s _ _ _; rw [f_bound, if_neg h6]; exact mK_of3 hst (sEq_r) hD (hk5))
  · refine z_al0 (pc' := 10) 5 rfl rfl ?_
    refine z_il2 (pc' := 11) 6 rfl rfl ?_
    refine z_callV1 (pc' := 14) 7 rfl rfl k_Mo_284 (by first | exact pm_f | exact pm_1 | (rw [pm_o (by decide)]; first | exact zu_s | (rw [zu_n (by decide)]; first | exact zu_s | (rw [zu_n (by decide)]; assumption)))) (c_Mo_isSet hi _) (by decide) (Nat.le_refl _) (Nat.le_refl _) rfl rfl (Nat.le_of_ble_eq_true rfl) ?_
    first | refine z_if_neB (pc' := 17) 8 rfl rfl (tgt := 19) rfl (fun h14 => ?_) (fun h14 => ?_) | refine z_if_neN (pc' := 17) 8 rfl rfl (tgt := 19) rfl (by omega) (fun h14 => ?_) (fun h14 => ?_) | refine z_if_ne (pc' := 17) 8 rfl rfl (tgt := 19) rfl (fun h14 => ?_) (fun h14 => ?_)
    · obtain ⟨x1, hx1, hx2, rfl⟩ := z_wi h6 (by decide) (by decide)
      refine z_al0 (pc' := 20) 11 rfl rfl ?_
      refine z_il1 (pc' := 21) 12 rfl rfl ?_
      refine z_callV1 (pc' := 24) 13 rfl rfl k_Mo_254 (by first | exact pm_f | exact pm_1 | (rw [pm_o (by decide)]; first | exact zu_s | (rw [zu_n (by decide)]; first | exact zu_s | (rw [zu_n (by decide)]; assumption)))) (c_Mo_monthsOf hi hmo (by omega)) (by decide) (Nat.le_refl _) (Nat.le_refl _) rfl rfl (Nat.le_of_ble_eq_true rfl) ?_
      refine z_is3 rfl rfl (pc' := 25) 14 rfl rfl ?_
      refine z_al0 (pc' := 26) 15 rfl rfl ?_
      refine z_il1 (pc' := 27) 16 rfl rfl ?_
      refine z_callV1 (pc' := 30) 17 rfl rfl k_Mo_266 (by first | exact pm_f | exact pm_1 | (rw [pm_o (by decide)]; first | exact zu_s | (rw [zu_n (by decide)]; first | exact zu_s | (rw [zu_n (by decide)]; assumption)))) (c_Mo_plansOf hi hmo (by omega)) (by decide) (Nat.le_refl _) (Nat.le_refl _) rfl rfl (Nat.le_of_ble_eq_true rfl) ?_
      refine z_is4 rfl rfl (pc' := 32) 18 rfl rfl ?_
      refine z_al0 (pc' := 33) 19 rfl rfl ?_
      refine z_callV0 (pc' := 36) 20 rfl rfl k_Mo_194 (by first | exact pm_f | exact pm_1 | (rw [pm_o (by decide)]; first | exact zu_s | (rw [zu_n (by decide)]; first | exact zu_s | (rw [zu_n (by decide)]; assumption)))) (c_Mo_thinks) (by decide) (Nat.le_refl _) (Nat.le_refl _) rfl rfl (Nat.le_of_ble_eq_true rfl) ?_
      refine z_bipush (v := (-3)) (by decide) (pc' := 38) 21 rfl rfl ?_
      refine z_is5 rfl rfl (pc' := 40) 22 rfl rfl ?_
      refine z_iconst (v := nI 0) (by decide) (pc' := 41) 23 rfl rfl ?_
      refine z_is6 rfl rfl (pc' := 43) 24 rfl rfl ?_
      have hK4 : min x1 (S 0 3 - mo) ≤ 4 := by omega
      refine l_Mo_bound (s := s) (set := y) (mo := mo) hi hD hK4 (by omega) hx _ 0 _ _ _ ((0, 0, 0), 5, 0) (Nat.zero_add _) sEq_r rfl (Nat.le_refl _) (fun s2 q2 y2 i2 j2 k2 g1 g2 => ?_)
      have h5 : (srF S D y (min x1 (S 0 3 - mo)) (mo, pr, fa)).2.1 ≤ 5 := sr_fw hK4
      rw [show fdN (lfS S D y (min x1 (S 0 3 - mo)) 0 0 (mo, pr, fa)) ((S 0 0 + 1) ^ min x1 (S 0 3 - mo)) 0 ((0, 0, 0), 5, 0) = (srF S D y (min x1 (S 0 3 - mo)) (mo, pr, fa)) from rfl] at g2
      subst g2
      have g3 : lsI (srF S D y (min x1 (S 0 3 - mo)) (mo, pr, fa)).2.1 = if (srF S D y (min x1 (S 0 3 - mo)) (mo, pr, fa)).2.1 ≤ 4 then nI (srF S D y (min x1 (S 0 3 - mo)) (mo, pr, fa)).2.1 else -3 := by
        unfold lsI
        by_cases z : (srF S D y (min x1 (S 0 3 - mo)) (mo, pr, fa)).2.1 = 5
        · rw [if_pos z, if_neg (by omega)]
        · rw [if_neg z, if_pos (by omega)]
      refine z_il5 (pc' := 119) 62 rfl rfl ?_
      exact z_ireturn 63 rfl rfl (by first | rfl | exact zbo_nar) rfl rfl (by show mK μ s _ _ _; rw [g3, f_bound, if_pos h6, if_pos h14, tN_n (by omega)]; exact mK_of3 hst g1 hD hk5)
    · refine z_iconst (v := (-1)) (by decide) (pc' := 18) 9 rfl rfl ?_
      exact z_ireturn 10 rfl rfl (by first | rfl | exact zbo_nar) rfl rfl (by show mK μ s _ _ _; rw [f_bound, if_pos h6, if_neg h14]; exact mK_of3 hst (sEq_r) hD (hk5))
set_option maxHeartbeats 4000000 in
set_option maxRecDepth 100000 in
theorem l_Mo_bars {G : zG} {n u : Nat} {Φ : zP} {ν : Nat → va_E} {s : Nat → Int32} {S : Nat → Nat → Nat} {ch : Int32} {rc : Nat} {ρ : Nat → Int32} {D : zD6} (hi : iS S) (hD : dzM ρ rc D) {K : Nat} (hK : K ≤ 4) {mo : Nat} {pr fa : Nat → Nat} {sc : Int32} (hm : mo + K ≤ 16) (hx : iX S pr fa) {set : Int32} {x0 z0 : Value} : ∀ c b (s1 q : Nat → Int32) (σ : zSr), b + c = (S 0 0 + 1) ^ K → sEq s s1 → σ.2.2 < 64 →
    (∀ (s2 q2 : Nat → Int32) i', sEq s s2 → zW G 7 M_Mo_bars 72 [.ref 88, x0, z0, .int (nI K), .int (nI ((S 0 0 + 1) ^ K)), .int (nI (fdN (lfS S D set K 0 0 (mo, pr, fa)) (c) (b) σ).2.2), i', .retAddr 0] [] n u (pm (zu (zu ν 91 (.inl (0, 618, .inl (mk S mo pr fa sc ch rc ρ)))) 93 (.inl (1, 100, .inl q2))) s2 (mk S mo pr fa sc ch rc ρ)) n u Φ) →
    zW G 7 M_Mo_bars 42 [.ref 88, x0, z0, .int (nI K), .int (nI ((S 0 0 + 1) ^ K)), .int (nI σ.2.2), .int (nI b), .retAddr 0] [] n u (pm (zu (zu ν 91 (.inl (0, 618, .inl (mk S mo pr fa sc ch rc ρ)))) 93 (.inl (1, 100, .inl q))) s1 (mk S mo pr fa sc ch rc ρ)) n u Φ
  | 0, b, s1, q, σ, e, hs, ky, Kk => by
    have hN := N4 hi.1 hK
    refine z_il6 (pc' := 44) 25 rfl rfl ?_
    refine z_il4 (pc' := 46) 26 rfl rfl ?_
    first | refine z_icmp_geN (pc' := 49) 27 rfl rfl (tgt := 72) rfl (by omega) (by omega) (fun h46 => ?_) (fun h46 => ?_) | refine z_icmp_ge (pc' := 49) 27 rfl rfl (tgt := 72) rfl (fun h46 => ?_) (fun h46 => ?_)
    · exact Kk _ _ _ hs
    · exfalso; omega
  | c + 1, b, s1, q, σ, e, hs, ky, Kk => by
    have hN := N4 hi.1 hK
    refine z_il6 (pc' := 44) 25 rfl rfl ?_
    refine z_il4 (pc' := 46) 26 rfl rfl ?_
    first | refine z_icmp_geN (pc' := 49) 27 rfl rfl (tgt := 72) rfl (by omega) (by omega) (fun h46 => ?_) (fun h46 => ?_) | refine z_icmp_ge (pc' := 49) 27 rfl rfl (tgt := 72) rfl (fun h46 => ?_) (fun h46 => ?_)
    · exfalso; omega
    · refine z_al0 (pc' := 50) 28 rfl rfl ?_
      refine z_il6 (pc' := 52) 29 rfl rfl ?_
      refine z_il3 (pc' := 53) 30 rfl rfl ?_
      refine z_callVX1 (pc' := 56) 31 rfl rfl k_Mo_272 (by first | exact pm_f | exact pm_1 | (rw [pm_o (by decide)]; first | exact zu_s | (rw [zu_n (by decide)]; first | exact zu_s | (rw [zu_n (by decide)]; assumption)))) (c_Mo_worthOf hi hD (by omega) hK hm hx) (by decide) (Nat.le_refl _) (Nat.le_refl _) rfl rfl (Nat.le_of_ble_eq_true rfl) (fun q53 => ?_)
      refine z_pop rfl (pc' := 57) 32 rfl rfl ?_
      refine z_il5 (pc' := 59) 33 rfl rfl ?_
      refine z_al0 (pc' := 60) 34 rfl rfl ?_
      refine z_getf (pc' := 63) 35 rfl rfl f_Mo_263_12 (by first | exact pm_f | exact pm_1 | (rw [pm_o (by decide)]; first | exact zu_s | (rw [zu_n (by decide)]; first | exact zu_s | (rw [zu_n (by decide)]; assumption)))) (by rfl) ?_
      refine z_te (show _ = nI (psN (rnA S D K b 0 (mo, pr, fa)).2.2.1 (S 0 0)) from rfl) ?_
      refine z_ior (pc' := 64) 36 rfl rfl ?_
      rw [nb_or]
      refine z_is5 rfl rfl (pc' := 66) 37 rfl rfl ?_
      first | refine z_inc6N rfl rfl (pc' := 69) 38 rfl rfl ?_ | refine z_inc6 rfl rfl rfl (pc' := 69) 38 rfl rfl ?_
      refine z_goto 39 rfl (tgt := 42) rfl ?_
      exact l_Mo_bars hi hD hK hm hx c (b + 1) _ _ (lfS S D set K 0 0 (mo, pr, fa) b σ) (by omega) (sEq_t hs ⟨rfl, rfl, rfl, rfl⟩) (Nat.or_lt_two_pow (n := 6) ky (psN_lt _ _ hi.1)) Kk
set_option maxHeartbeats 4000000 in
set_option maxRecDepth 100000 in
theorem l_Mo_bars2 {G : zG} {n u : Nat} {ν : Nat → va_E} {s : Nat → Int32} {S : Nat → Nat → Nat} {mo : Nat} {pr fa : Nat → Nat} {sc ch : Int32} {rc : Nat} {ρ : Nat → Int32} (hi : iS S) {Φ : zP} {B : Nat} (hB : B < 2 ^ S 0 0) {x0 z0 z1 z2 z3 : Value} : ∀ j k, k + j = S 0 0 → (∀ i, i < k → B / 2 ^ i % 2 = 0) → (∀ r μ', zE (some (.int (if B = 0 then -3 else nI (ntz B)))) (pm ν s (mk S mo pr fa sc ch rc ρ)) r μ' → Φ r μ') → zW G 7 M_Mo_bars 83 [.ref 88, x0, z0, z1, z2, z3, .int (nI B), .int (nI k)] [] n u (pm ν s (mk S mo pr fa sc ch rc ρ)) n u Φ
  | 0, k, e, hb, KK => by
    have hi0 := hi.1
    have hp2 : 2 ^ S 0 0 ≤ 2 ^ 6 := Nat.pow_le_pow_right (by decide) hi0
    refine z_il7 (pc' := 85) 48 rfl rfl ?_
    refine z_al0 (pc' := 86) 49 rfl rfl ?_
    refine z_getf (pc' := 89) 50 rfl rfl f_Mo_9_12 (by first | exact pm_f | exact pm_1 | (rw [pm_o (by decide)]; assumption)) (by rfl) ?_
    refine z_iconst (v := nI 3) (by decide) (pc' := 90) 51 rfl rfl ?_
    refine z_iald (pc' := 91) 52 rfl rfl (by first | exact pm_f | exact pm_1 | (rw [pm_o (by decide)]; assumption)) (by omega) (by decide) ?_
    rw [mk_3]
    first | refine z_icmp_geN (pc' := 94) 53 rfl rfl (tgt := 114) rfl (by omega) (by omega) (fun h91 => ?_) (fun h91 => ?_) | refine z_icmp_ge (pc' := 94) 53 rfl rfl (tgt := 114) rfl (fun h91 => ?_) (fun h91 => ?_)
    · refine z_bipush (v := (-3)) (by decide) (pc' := 116) 65 rfl rfl ?_
      exact z_ireturn 66 rfl rfl (by first | rfl | exact zbo_nar) rfl rfl (by refine KK _ _ ⟨by rw [if_pos (ntz_0 (S 0 0) (by omega) B hB (fun i hi9 => hb i (by omega)))], rfl⟩)
    · exfalso; omega
  | j + 1, k, e, hb, KK => by
    have hi0 := hi.1
    have hp2 : 2 ^ S 0 0 ≤ 2 ^ 6 := Nat.pow_le_pow_right (by decide) hi0
    refine z_il7 (pc' := 85) 48 rfl rfl ?_
    refine z_al0 (pc' := 86) 49 rfl rfl ?_
    refine z_getf (pc' := 89) 50 rfl rfl f_Mo_9_12 (by first | exact pm_f | exact pm_1 | (rw [pm_o (by decide)]; assumption)) (by rfl) ?_
    refine z_iconst (v := nI 3) (by decide) (pc' := 90) 51 rfl rfl ?_
    refine z_iald (pc' := 91) 52 rfl rfl (by first | exact pm_f | exact pm_1 | (rw [pm_o (by decide)]; assumption)) (by omega) (by decide) ?_
    rw [mk_3]
    first | refine z_icmp_geN (pc' := 94) 53 rfl rfl (tgt := 114) rfl (by omega) (by omega) (fun h91 => ?_) (fun h91 => ?_) | refine z_icmp_ge (pc' := 94) 53 rfl rfl (tgt := 114) rfl (fun h91 => ?_) (fun h91 => ?_)
    · exfalso; omega
    · refine z_il6 (pc' := 96) 54 rfl rfl ?_
      refine z_il7 (pc' := 98) 55 rfl rfl ?_
      refine z_ishr (pc' := 99) 56 rfl rfl ?_
      refine z_iconst (v := nI 1) (by decide) (pc' := 100) 57 rfl rfl ?_
      refine z_iand (pc' := 101) 58 rfl rfl ?_
      rw [nb_bit (by omega) (by omega)]
      refine z_iconst (v := nI 1) (by decide) (pc' := 102) 59 rfl rfl ?_
      first | refine z_icmp_neN (pc' := 105) 60 rfl rfl (tgt := 108) rfl (by omega) (by omega) (fun h102 => ?_) (fun h102 => ?_) | refine z_icmp_ne (pc' := 105) 60 rfl rfl (tgt := 108) rfl (fun h102 => ?_) (fun h102 => ?_)
      · first | refine z_inc7N rfl rfl (pc' := 111) 63 rfl rfl ?_ | refine z_inc7 rfl rfl rfl (pc' := 111) 63 rfl rfl ?_
        refine z_goto 64 rfl (tgt := 83) rfl ?_
        exact l_Mo_bars2 hi hB j (k + 1) (by omega) (fun i hi9 => by
          by_cases z : i = k
          · subst z; omega
          · exact hb i (by omega)) KK
      · refine z_il7 (pc' := 107) 61 rfl rfl ?_
        exact z_ireturn 62 rfl rfl (by first | rfl | exact zbo_nar) rfl rfl (by refine KK _ _ ⟨?_, rfl⟩; rw [if_neg (fun z => by rw [z, Nat.zero_div] at h102; omega), ntz_f B (by omega) k (by omega) h102 hb])
set_option maxHeartbeats 4000000 in
set_option maxRecDepth 100000 in
theorem c_Mo_bars {G : zG} {n u : Nat} {μ : Nat → va_E} {κ : zκ} {s : Nat → Int32} (h : mst μ s κ) (x y : Int32) :
    zMet G 7 M_Mo_bars [.ref 88, .int x, .int y] n u μ n u (mK μ s (f_bars κ x y, κ)) := by
  obtain ⟨S, mo, pr, fa, sc, ch, rc, D⟩ := κ
  have hst := h
  obtain ⟨⟨ρ, h1, hD⟩, h2, ⟨q93, h93⟩, ⟨q91, h91⟩, ⟨q94, h94⟩, ⟨q95, h95⟩, ⟨q96, h96⟩, ⟨q97, h97⟩, h5⟩ := h
  have hk5 := h5
  obtain ⟨hi, hx, hmo, hrc⟩ := h5
  have hi0 := hi.1
  have hi1 := hi.2.1
  have hi2 := hi.2.2.1
  have hi3 := hi.2.2.2.2.1
  have hm16 : mo ≤ 16 := by omega
  refine z_start (lv := [.ref 88, .int x, .int y, .retAddr 0, .retAddr 0, .retAddr 0, .retAddr 0, .retAddr 0]) K_Mo_bars rfl rfl (Nat.le_refl _) (Nat.le_refl _) (Nat.le_of_ble_eq_true rfl) rfl ?_
  refine z_mu (show μ = pm (zu (zu μ 91 (.inl (0, 618, .inl q91))) 93 (.inl (1, 100, .inl q93))) s (mk S mo pr fa sc ch rc ρ) by rw [zu_id h91, zu_id h93, pm_id h2 h1]) ?_
  refine z_il1 (pc' := 1) 0 rfl rfl ?_
  refine z_iconst (v := nI 0) (by decide) (pc' := 2) 1 rfl rfl ?_
  refine z_iconst (v := nI 4) (by decide) (pc' := 3) 2 rfl rfl ?_
  refine z_callS1 (pc' := 6) 3 rfl rfl k_Mo_67 (c_Mo_in _ _ _) (by decide) (Nat.le_refl _) (Nat.le_refl _) rfl rfl (Nat.le_of_ble_eq_true rfl) ?_
  first | refine z_if_eqB (pc' := 9) 4 rfl rfl (tgt := 17) rfl (fun h6 => ?_) (fun h6 => ?_) | refine z_if_eqN (pc' := 9) 4 rfl rfl (tgt := 17) rfl (by omega) (fun h6 => ?_) (fun h6 => ?_) | refine z_if_eq (pc' := 9) 4 rfl rfl (tgt := 17) rfl (fun h6 => ?_) (fun h6 => ?_)
  · refine z_iconst (v := (-1)) (by decide) (pc' := 18) 9 rfl rfl ?_
    exact z_ireturn 10 rfl rfl (by first | rfl | exact zbo_nar) rfl rfl (by show mK μ s _ _ _; rw [f_bars, if_neg h6]; exact mK_of3 hst (sEq_r) hD (hk5))
  · refine z_al0 (pc' := 10) 5 rfl rfl ?_
    refine z_il2 (pc' := 11) 6 rfl rfl ?_
    refine z_callV1 (pc' := 14) 7 rfl rfl k_Mo_284 (by first | exact pm_f | exact pm_1 | (rw [pm_o (by decide)]; first | exact zu_s | (rw [zu_n (by decide)]; first | exact zu_s | (rw [zu_n (by decide)]; assumption)))) (c_Mo_isSet hi _) (by decide) (Nat.le_refl _) (Nat.le_refl _) rfl rfl (Nat.le_of_ble_eq_true rfl) ?_
    first | refine z_if_neB (pc' := 17) 8 rfl rfl (tgt := 19) rfl (fun h14 => ?_) (fun h14 => ?_) | refine z_if_neN (pc' := 17) 8 rfl rfl (tgt := 19) rfl (by omega) (fun h14 => ?_) (fun h14 => ?_) | refine z_if_ne (pc' := 17) 8 rfl rfl (tgt := 19) rfl (fun h14 => ?_) (fun h14 => ?_)
    · obtain ⟨x1, hx1, hx2, rfl⟩ := z_wi h6 (by decide) (by decide)
      have hp2 : 2 ^ S 0 0 ≤ 2 ^ 6 := Nat.pow_le_pow_right (by decide) hi0
      have hp3 : 0 < 2 ^ S 0 0 := Nat.two_pow_pos _
      obtain ⟨w1, hw1, hw2, rfl⟩ := z_wi h14 (by omega) (by decide)
      refine z_al0 (pc' := 20) 11 rfl rfl ?_
      refine z_il1 (pc' := 21) 12 rfl rfl ?_
      refine z_callV1 (pc' := 24) 13 rfl rfl k_Mo_254 (by first | exact pm_f | exact pm_1 | (rw [pm_o (by decide)]; first | exact zu_s | (rw [zu_n (by decide)]; first | exact zu_s | (rw [zu_n (by decide)]; assumption)))) (c_Mo_monthsOf hi hmo (by omega)) (by decide) (Nat.le_refl _) (Nat.le_refl _) rfl rfl (Nat.le_of_ble_eq_true rfl) ?_
      refine z_is3 rfl rfl (pc' := 25) 14 rfl rfl ?_
      refine z_al0 (pc' := 26) 15 rfl rfl ?_
      refine z_il1 (pc' := 27) 16 rfl rfl ?_
      refine z_callV1 (pc' := 30) 17 rfl rfl k_Mo_266 (by first | exact pm_f | exact pm_1 | (rw [pm_o (by decide)]; first | exact zu_s | (rw [zu_n (by decide)]; first | exact zu_s | (rw [zu_n (by decide)]; assumption)))) (c_Mo_plansOf hi hmo (by omega)) (by decide) (Nat.le_refl _) (Nat.le_refl _) rfl rfl (Nat.le_of_ble_eq_true rfl) ?_
      refine z_is4 rfl rfl (pc' := 32) 18 rfl rfl ?_
      refine z_al0 (pc' := 33) 19 rfl rfl ?_
      refine z_callV0 (pc' := 36) 20 rfl rfl k_Mo_194 (by first | exact pm_f | exact pm_1 | (rw [pm_o (by decide)]; first | exact zu_s | (rw [zu_n (by decide)]; first | exact zu_s | (rw [zu_n (by decide)]; assumption)))) (c_Mo_thinks) (by decide) (Nat.le_refl _) (Nat.le_refl _) rfl rfl (Nat.le_of_ble_eq_true rfl) ?_
      refine z_iconst (v := nI 0) (by decide) (pc' := 37) 21 rfl rfl ?_
      refine z_is5 rfl rfl (pc' := 39) 22 rfl rfl ?_
      refine z_iconst (v := nI 0) (by decide) (pc' := 40) 23 rfl rfl ?_
      refine z_is6 rfl rfl (pc' := 42) 24 rfl rfl ?_
      have hK4 : min x1 (S 0 3 - mo) ≤ 4 := by omega
      have hE := sr_ev hi (D := D) (set := nI w1) (K := min x1 (S 0 3 - mo)) (t := (mo, pr, fa))
      refine l_Mo_bars (s := s) (set := nI w1) (mo := mo) hi hD hK4 (by omega) hx _ 0 _ _ ((0, 0, 0), 5, 0) (Nat.zero_add _) sEq_r (by show 0 < 64; decide) (fun s2 q2 i2 g1 => ?_)
      rw [show fdN (lfS S D (nI w1) (min x1 (S 0 3 - mo)) 0 0 (mo, pr, fa)) ((S 0 0 + 1) ^ min x1 (S 0 3 - mo)) 0 ((0, 0, 0), 5, 0) = (srF S D (nI w1) (min x1 (S 0 3 - mo)) (mo, pr, fa)) from rfl]
      refine z_il2 (pc' := 73) 40 rfl rfl ?_
      refine z_il5 (pc' := 75) 41 rfl rfl ?_
      refine z_iconst (v := (-1)) (by decide) (pc' := 76) 42 rfl rfl ?_
      refine z_ixor (pc' := 77) 43 rfl rfl ?_
      refine z_iand (pc' := 78) 44 rfl rfl ?_
      rw [bdf_e _ (by omega) _ hE]
      refine z_is6 rfl rfl (pc' := 80) 45 rfl rfl ?_
      refine z_iconst (v := nI 0) (by decide) (pc' := 81) 46 rfl rfl ?_
      refine z_is7 rfl rfl (pc' := 83) 47 rfl rfl ?_
      refine l_Mo_bars2 hi (B := (bdf w1 (srF S D (nI w1) (min x1 (S 0 3 - mo)) (mo, pr, fa)).2.2)) (bdf_lt (by omega)) (S 0 0) 0 (by omega) (fun i hi9 => absurd hi9 (Nat.not_lt_zero i)) ?_
      intro r9 μ9 h9
      obtain ⟨h9a, h9b⟩ := h9
      subst h9a; subst h9b
      show mK μ s _ _ _
      rw [f_bars, if_pos h6, if_pos h14, tN_n (show x1 < 2 ^ 31 by omega), tN_n (show w1 < 2 ^ 31 by omega)]
      exact mK_of3 hst g1 hD hk5
    · refine z_iconst (v := (-1)) (by decide) (pc' := 18) 9 rfl rfl ?_
      exact z_ireturn 10 rfl rfl (by first | rfl | exact zbo_nar) rfl rfl (by show mK μ s _ _ _; rw [f_bars, if_pos h6, if_neg h14]; exact mK_of3 hst (sEq_r) hD (hk5))
