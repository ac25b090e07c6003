def mI4 (S : Nat → Nat → Nat) (t g b : Nat) : Int32 := if b = 6 then -1 else nI (gS S g b t)
theorem zm1 : ∀ {x : Nat}, x < 2 ^ 31 → ¬ nI x ≤ -1 := by
  intro x hx h
  have h1 := Int32.le_iff_toInt_le.mp h
  rw [nI_toInt hx, show (-1 : Int32).toInt = -1 from by decide] at h1
  omega
def nfw (S : Nat → Nat → Nat) (t g : Nat) (pr : Nat → Nat) : Nat → Nat → Nat
  | 0, k => fwN S t g pr k
  | j + 1, k => nfw S t g pr j (k + 1)
set_option maxHeartbeats 4000000 in
set_option maxRecDepth 100000 in
theorem l_Cr_freeWindFor {G : zG} {n u : Nat} {ν : Nat → va_E} {S : Nat → Nat → Nat} {sc ch : Int32} (hco : isCo ν S sc ch) (hi : iS S) {a mo cs : Nat} {pr fa q : Nat → Nat} (ha : a = 13 ∨ 43 ≤ a) {g : Nat} (hg : g < 6) (hm : mo ≤ 16) (hp : ∀ j, pr j ≤ 6) : ∀ j k b x, k + j = S 0 1 → b = fwN S mo g pr k → x = mI4 S mo g b →
    zW G 2 M_Cr_freeWindFor 16 [.ref a, .ref 5, .int (nI g), .int (nI b), .int x, .int (nI (wbN pr (S 0 0))), .int (nI k), .retAddr 0] [] n u (pcr ν a mo cs pr fa q) n u (zE (some (.int (nI (fw S mo g pr)))) (pcr ν a mo cs pr fa q))
  | 0, k, b, x, e, eb, ex => by
    subst eb; subst ex
    have hi0 := hi.2.1
    have hi1 := hi.1
    have hco0 := hco
    obtain ⟨m5, m6, m7, m8, m9, m10, m11, m12, m22⟩ := hco
    have hwb := wbN_lt pr hp (S 0 0)
    have hgk : gS S g k mo ≤ 18 := gS_le hi
    have hgb : gS S g (fwN S mo g pr k) mo ≤ 18 := gS_le hi
    obtain rfl : k = S 0 1 := by omega
    refine z_il6 (pc' := 18) 10 rfl rfl ?_
    refine z_al1 (pc' := 19) 11 rfl rfl ?_
    refine z_getf (pc' := 22) 12 rfl rfl f_Cr_90_3 (by first | exact pcr_0 | exact pcr_1 | exact pcr_2 | exact pcr_3 | (rw [pcr_o (by omega)]; assumption)) (by rfl) ?_
    first | refine z_icmp_geN (pc' := 25) 13 rfl rfl (tgt := 81) rfl (by omega) (by omega) (fun h22 => ?_) (fun h22 => ?_) | refine z_icmp_ge (pc' := 25) 13 rfl rfl (tgt := 81) rfl (fun h22 => ?_) (fun h22 => ?_)
    · refine z_il3 (pc' := 82) 42 rfl rfl ?_
      exact z_ireturn 43 rfl rfl (by first | rfl | exact zbo_nar) rfl rfl (by exact ⟨rfl, rfl⟩)
    · exfalso; omega
  | j + 1, k, b, x, e, eb, ex => by
    subst eb; subst ex
    have hi0 := hi.2.1
    have hi1 := hi.1
    have hco0 := hco
    obtain ⟨m5, m6, m7, m8, m9, m10, m11, m12, m22⟩ := hco
    have hwb := wbN_lt pr hp (S 0 0)
    have hgk : gS S g k mo ≤ 18 := gS_le hi
    have hgb : gS S g (fwN S mo g pr k) mo ≤ 18 := gS_le hi
    by_cases h6 : fwN S mo g pr k = 6
    · rw [show mI4 S mo g (fwN S mo g pr k) = -1 from if_pos h6]
      refine z_il6 (pc' := 18) 10 rfl rfl ?_
      refine z_al1 (pc' := 19) 11 rfl rfl ?_
      refine z_getf (pc' := 22) 12 rfl rfl f_Cr_90_3 (by first | exact pcr_0 | exact pcr_1 | exact pcr_2 | exact pcr_3 | (rw [pcr_o (by omega)]; assumption)) (by rfl) ?_
      first | refine z_icmp_geN (pc' := 25) 13 rfl rfl (tgt := 81) rfl (by omega) (by omega) (fun h22 => ?_) (fun h22 => ?_) | refine z_icmp_ge (pc' := 25) 13 rfl rfl (tgt := 81) rfl (fun h22 => ?_) (fun h22 => ?_)
      · exfalso; omega
      · refine z_al1 (pc' := 26) 14 rfl rfl ?_
        refine z_il6 (pc' := 28) 15 rfl rfl ?_
        refine z_al0 (pc' := 29) 16 rfl rfl ?_
        refine z_getf (pc' := 32) 17 rfl rfl f_Cr_23_4 (by first | exact pcr_0 | exact pcr_1 | exact pcr_2 | exact pcr_3 | (rw [pcr_o (by omega)]; assumption)) (by rfl) ?_
        refine z_callV1 (pc' := 35) 18 rfl rfl k_Cr_60 (by first | exact pcr_0 | exact pcr_1 | exact pcr_2 | exact pcr_3 | (rw [pcr_o (by omega)]; assumption)) (c_Co_blows (isCo_pcr hco0 ha) hi (by omega) (by omega)) (by decide) (Nat.le_refl _) (Nat.le_refl _) rfl rfl (Nat.le_of_ble_eq_true rfl) ?_
        first | refine z_if_eqB (pc' := 38) 19 rfl rfl (tgt := 75) rfl (fun h35 => ?_) (fun h35 => ?_) | refine z_if_eqN (pc' := 38) 19 rfl rfl (tgt := 75) rfl (by omega) (fun h35 => ?_) (fun h35 => ?_) | refine z_if_eq (pc' := 38) 19 rfl rfl (tgt := 75) rfl (fun h35 => ?_) (fun h35 => ?_)
        · first | refine z_inc6N rfl rfl (pc' := 78) 40 rfl rfl ?_ | refine z_inc6 rfl rfl rfl (pc' := 78) 40 rfl rfl ?_
          refine z_goto 41 rfl (tgt := 16) rfl ?_
          refine z_less7 ?_
          exact l_Cr_freeWindFor hco0 hi ha hg hm hp j (k + 1) _ _ (by omega) (by rw [fwN, if_neg (fun z => h35 z.1)]) (by rw [mI4, if_pos h6])
        · refine z_il5 (pc' := 40) 20 rfl rfl ?_
          refine z_il6 (pc' := 42) 21 rfl rfl ?_
          refine z_ishr (pc' := 43) 22 rfl rfl ?_
          refine z_iconst (v := nI 1) (by decide) (pc' := 44) 23 rfl rfl ?_
          refine z_iand (pc' := 45) 24 rfl rfl ?_
          rw [nb_bit (by omega) (by omega)]
          first | refine z_if_neB (pc' := 48) 25 rfl rfl (tgt := 75) rfl (fun h45 => ?_) (fun h45 => ?_) | refine z_if_neN (pc' := 48) 25 rfl rfl (tgt := 75) rfl (by omega) (fun h45 => ?_) (fun h45 => ?_) | refine z_if_ne (pc' := 48) 25 rfl rfl (tgt := 75) rfl (fun h45 => ?_) (fun h45 => ?_)
          · first | refine z_inc6N rfl rfl (pc' := 78) 40 rfl rfl ?_ | refine z_inc6 rfl rfl rfl (pc' := 78) 40 rfl rfl ?_
            refine z_goto 41 rfl (tgt := 16) rfl ?_
            refine z_less7 ?_
            exact l_Cr_freeWindFor hco0 hi ha hg hm hp j (k + 1) _ _ (by omega) (by rw [fwN, if_neg (fun z => h45 ((wbN_bit pr k _).mpr z.2.1))]) (by rw [mI4, if_pos h6])
          · refine z_al1 (pc' := 49) 26 rfl rfl ?_
            refine z_il2 (pc' := 50) 27 rfl rfl ?_
            refine z_il6 (pc' := 52) 28 rfl rfl ?_
            refine z_al0 (pc' := 53) 29 rfl rfl ?_
            refine z_getf (pc' := 56) 30 rfl rfl f_Cr_23_4 (by first | exact pcr_0 | exact pcr_1 | exact pcr_2 | exact pcr_3 | (rw [pcr_o (by omega)]; assumption)) (by rfl) ?_
            refine z_callV1 (pc' := 59) 31 rfl rfl k_Cr_72 (by first | exact pcr_0 | exact pcr_1 | exact pcr_2 | exact pcr_3 | (rw [pcr_o (by omega)]; assumption)) (c_Co_gainBy (isCo_pcr hco0 ha) hi hg (by omega) hm) (by decide) (Nat.le_refl _) (Nat.le_refl _) rfl rfl (Nat.le_of_ble_eq_true rfl) ?_
            refine z_is7 rfl rfl (pc' := 61) 32 rfl rfl ?_
            refine z_il7 (pc' := 63) 33 rfl rfl ?_
            refine z_il4 (pc' := 65) 34 rfl rfl ?_
            refine z_icmp_le_f (pc' := 68) 35 rfl rfl (tgt := 75) rfl (zm1 (by omega)) ?_
            refine z_il7 (pc' := 70) 36 rfl rfl ?_
            refine z_is4 rfl rfl (pc' := 72) 37 rfl rfl ?_
            refine z_il6 (pc' := 74) 38 rfl rfl ?_
            refine z_is3 rfl rfl (pc' := 75) 39 rfl rfl ?_
            first | refine z_inc6N rfl rfl (pc' := 78) 40 rfl rfl ?_ | refine z_inc6 rfl rfl rfl (pc' := 78) 40 rfl rfl ?_
            refine z_goto 41 rfl (tgt := 16) rfl ?_
            refine z_less7 ?_
            exact l_Cr_freeWindFor hco0 hi ha hg hm hp j (k + 1) _ _ (by omega) (by rw [fwN, if_pos ⟨h35, (wbN_bit pr k _).mp h45, Or.inl h6⟩]) (by rw [mI4, if_neg (show ¬ k = 6 by omega)])
    · rw [show mI4 S mo g (fwN S mo g pr k) = nI (gS S g (fwN S mo g pr k) mo) from if_neg h6]
      refine z_il6 (pc' := 18) 10 rfl rfl ?_
      refine z_al1 (pc' := 19) 11 rfl rfl ?_
      refine z_getf (pc' := 22) 12 rfl rfl f_Cr_90_3 (by first | exact pcr_0 | exact pcr_1 | exact pcr_2 | exact pcr_3 | (rw [pcr_o (by omega)]; assumption)) (by rfl) ?_
      first | refine z_icmp_geN (pc' := 25) 13 rfl rfl (tgt := 81) rfl (by omega) (by omega) (fun h22 => ?_) (fun h22 => ?_) | refine z_icmp_ge (pc' := 25) 13 rfl rfl (tgt := 81) rfl (fun h22 => ?_) (fun h22 => ?_)
      · exfalso; omega
      · refine z_al1 (pc' := 26) 14 rfl rfl ?_
        refine z_il6 (pc' := 28) 15 rfl rfl ?_
        refine z_al0 (pc' := 29) 16 rfl rfl ?_
        refine z_getf (pc' := 32) 17 rfl rfl f_Cr_23_4 (by first | exact pcr_0 | exact pcr_1 | exact pcr_2 | exact pcr_3 | (rw [pcr_o (by omega)]; assumption)) (by rfl) ?_
        refine z_callV1 (pc' := 35) 18 rfl rfl k_Cr_60 (by first | exact pcr_0 | exact pcr_1 | exact pcr_2 | exact pcr_3 | (rw [pcr_o (by omega)]; assumption)) (c_Co_blows (isCo_pcr hco0 ha) hi (by omega) (by omega)) (by decide) (Nat.le_refl _) (Nat.le_refl _) rfl rfl (Nat.le_of_ble_eq_true rfl) ?_
        first | refine z_if_eqB (pc' := 38) 19 rfl rfl (tgt := 75) rfl (fun h35 => ?_) (fun h35 => ?_) | refine z_if_eqN (pc' := 38) 19 rfl rfl (tgt := 75) rfl (by omega) (fun h35 => ?_) (fun h35 => ?_) | refine z_if_eq (pc' := 38) 19 rfl rfl (tgt := 75) rfl (fun h35 => ?_) (fun h35 => ?_)
        · first | refine z_inc6N rfl rfl (pc' := 78) 40 rfl rfl ?_ | refine z_inc6 rfl rfl rfl (pc' := 78) 40 rfl rfl ?_
          refine z_goto 41 rfl (tgt := 16) rfl ?_
          refine z_less7 ?_
          exact l_Cr_freeWindFor hco0 hi ha hg hm hp j (k + 1) _ _ (by omega) (by rw [fwN, if_neg (fun z => h35 z.1)]) (by rw [mI4, if_neg h6])
        · refine z_il5 (pc' := 40) 20 rfl rfl ?_
          refine z_il6 (pc' := 42) 21 rfl rfl ?_
          refine z_ishr (pc' := 43) 22 rfl rfl ?_
          refine z_iconst (v := nI 1) (by decide) (pc' := 44) 23 rfl rfl ?_
          refine z_iand (pc' := 45) 24 rfl rfl ?_
          rw [nb_bit (by omega) (by omega)]
          first | refine z_if_neB (pc' := 48) 25 rfl rfl (tgt := 75) rfl (fun h45 => ?_) (fun h45 => ?_) | refine z_if_neN (pc' := 48) 25 rfl rfl (tgt := 75) rfl (by omega) (fun h45 => ?_) (fun h45 => ?_) | refine z_if_ne (pc' := 48) 25 rfl rfl (tgt := 75) rfl (fun h45 => ?_) (fun h45 => ?_)
          · first | refine z_inc6N rfl rfl (pc' := 78) 40 rfl rfl ?_ | refine z_inc6 rfl rfl rfl (pc' := 78) 40 rfl rfl ?_
            refine z_goto 41 rfl (tgt := 16) rfl ?_
            refine z_less7 ?_
            exact l_Cr_freeWindFor hco0 hi ha hg hm hp j (k + 1) _ _ (by omega) (by rw [fwN, if_neg (fun z => h45 ((wbN_bit pr k _).mpr z.2.1))]) (by rw [mI4, if_neg h6])
          · refine z_al1 (pc' := 49) 26 rfl rfl ?_
            refine z_il2 (pc' := 50) 27 rfl rfl ?_
            refine z_il6 (pc' := 52) 28 rfl rfl ?_
            refine z_al0 (pc' := 53) 29 rfl rfl ?_
            refine z_getf (pc' := 56) 30 rfl rfl f_Cr_23_4 (by first | exact pcr_0 | exact pcr_1 | exact pcr_2 | exact pcr_3 | (rw [pcr_o (by omega)]; assumption)) (by rfl) ?_
            refine z_callV1 (pc' := 59) 31 rfl rfl k_Cr_72 (by first | exact pcr_0 | exact pcr_1 | exact pcr_2 | exact pcr_3 | (rw [pcr_o (by omega)]; assumption)) (c_Co_gainBy (isCo_pcr hco0 ha) hi hg (by omega) hm) (by decide) (Nat.le_refl _) (Nat.le_refl _) rfl rfl (Nat.le_of_ble_eq_true rfl) ?_
            refine z_is7 rfl rfl (pc' := 61) 32 rfl rfl ?_
            refine z_il7 (pc' := 63) 33 rfl rfl ?_
            refine z_il4 (pc' := 65) 34 rfl rfl ?_
            first | refine z_icmp_leN (pc' := 68) 35 rfl rfl (tgt := 75) rfl (by omega) (by omega) (fun h65 => ?_) (fun h65 => ?_) | refine z_icmp_le (pc' := 68) 35 rfl rfl (tgt := 75) rfl (fun h65 => ?_) (fun h65 => ?_)
            · first | refine z_inc6N rfl rfl (pc' := 78) 40 rfl rfl ?_ | refine z_inc6 rfl rfl rfl (pc' := 78) 40 rfl rfl ?_
              refine z_goto 41 rfl (tgt := 16) rfl ?_
              refine z_less7 ?_
              exact l_Cr_freeWindFor hco0 hi ha hg hm hp j (k + 1) _ _ (by omega) (by rw [fwN, if_neg (fun z => z.2.2.elim h6 (Nat.not_lt.mpr h65))]) (by rw [mI4, if_neg h6])
            · refine z_il7 (pc' := 70) 36 rfl rfl ?_
              refine z_is4 rfl rfl (pc' := 72) 37 rfl rfl ?_
              refine z_il6 (pc' := 74) 38 rfl rfl ?_
              refine z_is3 rfl rfl (pc' := 75) 39 rfl rfl ?_
              first | refine z_inc6N rfl rfl (pc' := 78) 40 rfl rfl ?_ | refine z_inc6 rfl rfl rfl (pc' := 78) 40 rfl rfl ?_
              refine z_goto 41 rfl (tgt := 16) rfl ?_
              refine z_less7 ?_
              exact l_Cr_freeWindFor hco0 hi ha hg hm hp j (k + 1) _ _ (by omega) (by rw [fwN, if_pos ⟨h35, (wbN_bit pr k _).mp h45, Or.inr h65⟩]) (by rw [mI4, if_neg (show ¬ k = 6 by omega)])
set_option maxHeartbeats 4000000 in
set_option maxRecDepth 100000 in
theorem c_Cr_freeWindFor {G : zG} {n u : Nat} {ν : Nat → va_E} {S : Nat → Nat → Nat} {sc ch : Int32} (hco : isCo ν S sc ch) (hi : iS S) {a mo cs : Nat} {pr fa q : Nat → Nat} (ha : a = 13 ∨ 43 ≤ a) {g : Nat} (hg : g < 6) (hm : mo ≤ 16) (hp : ∀ j, pr j ≤ 6) :
    zMet G 2 M_Cr_freeWindFor [.ref a, .ref 5, .int (nI g)] n u (pcr ν a mo cs pr fa q) n u (zE (some (.int (nI (fw S mo g pr)))) (pcr ν a mo cs pr fa q)) := by
  refine z_start (lv := [.ref a, .ref 5, .int (nI g), .retAddr 0, .retAddr 0, .retAddr 0, .retAddr 0, .retAddr 0]) K_Cr_freeWindFor rfl rfl (Nat.le_refl _) (Nat.le_refl _) (Nat.le_of_ble_eq_true rfl) rfl ?_
  refine z_bipush (v := nI 6) (by decide) (pc' := 2) 0 rfl rfl ?_
  refine z_is3 rfl rfl (pc' := 3) 1 rfl rfl ?_
  refine z_iconst (v := (-1)) (by decide) (pc' := 4) 2 rfl rfl ?_
  refine z_is4 rfl rfl (pc' := 6) 3 rfl rfl ?_
  refine z_al0 (pc' := 7) 4 rfl rfl ?_
  refine z_al1 (pc' := 8) 5 rfl rfl ?_
  refine z_callV1 (pc' := 11) 6 rfl rfl k_Cr_86 (by first | exact pcr_0 | exact pcr_1 | exact pcr_2 | exact pcr_3 | (rw [pcr_o (by omega)]; assumption)) (c_Cr_windsWithBrides hco hi ha hp) (by decide) (Nat.le_refl _) (Nat.le_refl _) rfl rfl (Nat.le_of_ble_eq_true rfl) ?_
  refine z_is5 rfl rfl (pc' := 13) 7 rfl rfl ?_
  refine z_iconst (v := nI 0) (by decide) (pc' := 14) 8 rfl rfl ?_
  refine z_is6 rfl rfl (pc' := 16) 9 rfl rfl ?_
  exact l_Cr_freeWindFor hco hi ha hg hm hp (S 0 1) 0 _ _ (by omega) rfl rfl
set_option maxHeartbeats 4000000 in
set_option maxRecDepth 100000 in
theorem c_Cr_meetsCalm {G : zG} {n u : Nat} {ν : Nat → va_E} {S : Nat → Nat → Nat} {sc ch : Int32} (hco : isCo ν S sc ch) (hi : iS S) {a mo cs : Nat} {pr fa q : Nat → Nat} (ha : a = 13 ∨ 43 ≤ a) {g dz : Nat} (hg : g < 6) (hm : mo ≤ 16) (hdz : dz ≤ 2) (hp : ∀ j, pr j ≤ 6) :
    zMet G 3 M_Cr_meetsCalm [.ref a, .ref 5, .int (nI g), .int (nI dz)] n u (pcr ν a mo cs pr fa q) n u (zE none (pcr ν a mo cs (cal S mo g dz pr fa).1 (cal S mo g dz pr fa).2 q)) := by
  refine z_start (lv := [.ref a, .ref 5, .int (nI g), .int (nI dz), .retAddr 0]) K_Cr_meetsCalm rfl rfl (Nat.le_refl _) (Nat.le_refl _) (Nat.le_of_ble_eq_true rfl) rfl ?_
  have hfw := fwN_le S mo g pr (S 0 1) hi.2.1
  have hi1 := hi.2.1
  have e0 : fwN S mo g pr (S 0 1) = fw S mo g pr := rfl
  rw [e0] at hfw
  refine z_il3 (pc' := 1) 0 rfl rfl ?_
  refine z_iconst (v := nI 2) (by decide) (pc' := 2) 1 rfl rfl ?_
  first | refine z_icmp_neN (pc' := 5) 2 rfl rfl (tgt := 16) rfl (by omega) (by omega) (fun h2 => ?_) (fun h2 => ?_) | refine z_icmp_ne (pc' := 5) 2 rfl rfl (tgt := 16) rfl (fun h2 => ?_) (fun h2 => ?_)
  · refine z_il3 (pc' := 17) 9 rfl rfl ?_
    refine z_iconst (v := nI 1) (by decide) (pc' := 18) 10 rfl rfl ?_
    first | refine z_icmp_neN (pc' := 21) 11 rfl rfl (tgt := 44) rfl (by omega) (by omega) (fun h18 => ?_) (fun h18 => ?_) | refine z_icmp_ne (pc' := 21) 11 rfl rfl (tgt := 44) rfl (fun h18 => ?_) (fun h18 => ?_)
    · exact z_return 25 rfl rfl rfl rfl (by refine ⟨rfl, ?_⟩; unfold cal; first | rw [if_pos h2] | (rw [if_neg h2, if_pos h18, if_pos h33]) | (rw [if_neg h2, if_pos h18, if_neg h33]) | (rw [if_neg h2, if_neg h18]))
    · refine z_al0 (pc' := 22) 12 rfl rfl ?_
      refine z_al1 (pc' := 23) 13 rfl rfl ?_
      refine z_il2 (pc' := 24) 14 rfl rfl ?_
      refine z_callV1 (pc' := 27) 15 rfl rfl k_Cr_83 (by first | exact pcr_0 | exact pcr_1 | exact pcr_2 | exact pcr_3 | (rw [pcr_o (by omega)]; assumption)) (c_Cr_freeWindFor hco hi ha hg hm hp) (by decide) (Nat.le_refl _) (Nat.le_refl _) rfl rfl (Nat.le_of_ble_eq_true rfl) ?_
      refine z_is4 rfl rfl (pc' := 29) 16 rfl rfl ?_
      refine z_il4 (pc' := 31) 17 rfl rfl ?_
      refine z_bipush (v := nI 6) (by decide) (pc' := 33) 18 rfl rfl ?_
      first | refine z_icmp_eqN (pc' := 36) 19 rfl rfl (tgt := 44) rfl (by omega) (by omega) (fun h33 => ?_) (fun h33 => ?_) | refine z_icmp_eq (pc' := 36) 19 rfl rfl (tgt := 44) rfl (fun h33 => ?_) (fun h33 => ?_)
      · exact z_return 25 rfl rfl rfl rfl (by refine ⟨rfl, ?_⟩; unfold cal; first | rw [if_pos h2] | (rw [if_neg h2, if_pos h18, if_pos h33]) | (rw [if_neg h2, if_pos h18, if_neg h33]) | (rw [if_neg h2, if_neg h18]))
      · refine z_al0 (pc' := 37) 20 rfl rfl ?_
        refine z_al1 (pc' := 38) 21 rfl rfl ?_
        refine z_il2 (pc' := 39) 22 rfl rfl ?_
        refine z_il4 (pc' := 41) 23 rfl rfl ?_
        refine z_callV0 (pc' := 44) 24 rfl rfl k_Cr_80 (by first | exact pcr_0 | exact pcr_1 | exact pcr_2 | exact pcr_3 | (rw [pcr_o (by omega)]; assumption)) (c_Cr_promiseTo hco hi ha hg) (by decide) (Nat.le_refl _) (Nat.le_refl _) rfl rfl (Nat.le_of_ble_eq_true rfl) ?_
        exact z_return 25 rfl rfl rfl rfl (by refine ⟨rfl, ?_⟩; unfold cal; first | rw [if_pos h2] | (rw [if_neg h2, if_pos h18, if_pos h33]) | (rw [if_neg h2, if_pos h18, if_neg h33]) | (rw [if_neg h2, if_neg h18]))
  · refine z_al0 (pc' := 6) 3 rfl rfl ?_
    refine z_al1 (pc' := 7) 4 rfl rfl ?_
    refine z_il2 (pc' := 8) 5 rfl rfl ?_
    refine z_bipush (v := nI 6) (by decide) (pc' := 10) 6 rfl rfl ?_
    refine z_callV0 (pc' := 13) 7 rfl rfl k_Cr_80 (by first | exact pcr_0 | exact pcr_1 | exact pcr_2 | exact pcr_3 | (rw [pcr_o (by omega)]; assumption)) (c_Cr_promiseTo hco hi ha hg) (by decide) (Nat.le_refl _) (Nat.le_refl _) rfl rfl (Nat.le_of_ble_eq_true rfl) ?_
    refine z_goto 8 rfl (tgt := 44) rfl ?_
    exact z_return 25 rfl rfl rfl rfl (by refine ⟨rfl, ?_⟩; unfold cal; first | rw [if_pos h2] | (rw [if_neg h2, if_pos h18, if_pos h33]) | (rw [if_neg h2, if_pos h18, if_neg h33]) | (rw [if_neg h2, if_neg h18]))
set_option maxHeartbeats 4000000 in
set_option maxRecDepth 100000 in
theorem c_Cr_wearsOut {G : zG} {n u : Nat} {ν : Nat → va_E} {S : Nat → Nat → Nat} {sc ch : Int32} (hco : isCo ν S sc ch) (hi : iS S) {a mo cs : Nat} {pr fa q : Nat → Nat} (ha : a = 13 ∨ 43 ≤ a) {g : Nat} (hg : g < 6) (hf : 1 ≤ fa g) (hf9 : fa g ≤ 9) :
    zMet G 1 M_Cr_wearsOut [.ref a, .ref 5, .int (nI g)] n u (pcr ν a mo cs pr fa q) n u (zE none (if fa g ≤ 1 then pcr ν a mo cs (un pr g 6) (un fa g (S 3 g)) q else pcr ν a mo cs pr (un fa g (fa g - 1)) q)) := by
  refine z_start (lv := [.ref a, .ref 5, .int (nI g)]) K_Cr_wearsOut rfl rfl (Nat.le_refl _) (Nat.le_refl _) (Nat.le_of_ble_eq_true rfl) rfl ?_
  refine z_al0 (pc' := 1) 0 rfl rfl ?_
  refine z_getf (pc' := 4) 1 rfl rfl f_Cr_15_4 (by first | exact pcr_0 | exact pcr_1 | exact pcr_2 | exact pcr_3 | (rw [pcr_o (by omega)]; assumption)) (by rfl) ?_
  refine z_il2 (pc' := 5) 2 rfl rfl ?_
  refine z_dup2 rfl rfl (pc' := 6) 3 rfl rfl ?_
  refine z_iald (pc' := 7) 4 rfl rfl (by first | exact pcr_0 | exact pcr_1 | exact pcr_2 | exact pcr_3 | (rw [pcr_o (by omega)]; assumption)) (by omega) (by decide) ?_
  refine z_iconst (v := nI 1) (by decide) (pc' := 8) 5 rfl rfl ?_
  first | refine z_isubN (by omega) (pc' := 9) 6 rfl rfl ?_ | refine z_isub (pc' := 9) 6 rfl rfl ?_
  refine z_iast (pc' := 10) 7 rfl rfl (by first | exact pcr_0 | exact pcr_1 | exact pcr_2 | exact pcr_3 | (rw [pcr_o (by omega)]; assumption)) (by omega) (by decide) ?_
  rw [upd_n, pcr_s2]
  refine z_al0 (pc' := 11) 8 rfl rfl ?_
  refine z_getf (pc' := 14) 9 rfl rfl f_Cr_15_4 (by first | exact pcr_0 | exact pcr_1 | exact pcr_2 | exact pcr_3 | (rw [pcr_o (by omega)]; assumption)) (by rfl) ?_
  refine z_il2 (pc' := 15) 10 rfl rfl ?_
  refine z_iald (pc' := 16) 11 rfl rfl (by first | exact pcr_0 | exact pcr_1 | exact pcr_2 | exact pcr_3 | (rw [pcr_o (by omega)]; assumption)) (by omega) (by decide) ?_
  rw [un_s]
  first | refine z_if_gtN (pc' := 19) 12 rfl rfl (tgt := 27) rfl (by omega) (fun h16 => ?_) (fun h16 => ?_) | refine z_if_gt (pc' := 19) 12 rfl rfl (tgt := 27) rfl (fun h16 => ?_) (fun h16 => ?_)
  · exact z_return 18 rfl rfl rfl rfl (by refine ⟨rfl, ?_⟩; first | rw [if_pos (by omega), un_un] | rw [if_neg (by omega)])
  · refine z_al0 (pc' := 20) 13 rfl rfl ?_
    refine z_al1 (pc' := 21) 14 rfl rfl ?_
    refine z_il2 (pc' := 22) 15 rfl rfl ?_
    refine z_bipush (v := nI 6) (by decide) (pc' := 24) 16 rfl rfl ?_
    refine z_callV0 (pc' := 27) 17 rfl rfl k_Cr_80 (by first | exact pcr_0 | exact pcr_1 | exact pcr_2 | exact pcr_3 | (rw [pcr_o (by omega)]; assumption)) (c_Cr_promiseTo hco hi ha hg) (by decide) (Nat.le_refl _) (Nat.le_refl _) rfl rfl (Nat.le_of_ble_eq_true rfl) ?_
    exact z_return 18 rfl rfl rfl rfl (by refine ⟨rfl, ?_⟩; first | rw [if_pos (by omega), un_un] | rw [if_neg (by omega)])
