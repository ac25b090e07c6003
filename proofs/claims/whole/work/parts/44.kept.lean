theorem cwN_le {S : Nat → Nat → Nat} (hi : iS S) {t g L : Nat} : ∀ k, k ≤ 6 → cwN S t g L k ≤ 6 := fun k h => by
  rcases cwN_s hi (t := t) (g := g) (L := L) k h with ⟨a, _⟩ | ⟨a, _⟩ <;> omega
def lvl (S : Nat → Nat → Nat) (t g th : Nat) : Nat := if th = 6 then 0 else ky S t g th + 1
set_option maxHeartbeats 4000000 in
set_option maxRecDepth 100000 in
theorem l_Co_nextLiked {G : zG} {n u : Nat} {ν : Nat → va_E} {S : Nat → Nat → Nat} {sc ch : Int32} {mo cs : Nat} {pr fa q : Nat → Nat} (hi : iS S) (hm : mo ≤ 16) {g th : Nat} (hg : g < 6) (hth : th < S 0 1 ∨ th = 6) {Φ : zP} : ∀ j k b, k + j = S 0 1 → b = cwN S (hmo mo) g (lvl S (hmo mo) g th) k → (Φ (some (.int (nI (cwN S (hmo mo) g (lvl S (hmo mo) g th) (S 0 1))))) (pcc ν S sc ch mo cs pr fa q)) →
    zW G 3 M_Co_nextLiked 6 [.ref 5, .int (nI g), .int (nI th), .int (nI b), .int (nI k), .retAddr 0] [] n u (pcc ν S sc ch mo cs pr fa q) n u Φ
  | 0, k, b, e, eb, K => by
    have hi0 := hi.1
    have hi1 := hi.2.1
    have hh := hmo_le (mo := mo)
    obtain rfl : k = S 0 1 := by omega
    subst eb
    refine z_il4 (pc' := 8) 4 rfl rfl ?_
    refine z_al0 (pc' := 9) 5 rfl rfl ?_
    refine z_getf (pc' := 12) 6 rfl rfl f_Co_69_3 (by first | exact pcc_5 | exact pcc_6 | exact pcc_7 | exact pcc_8 | exact pcc_9 | exact pcc_10 | exact pcc_11 | exact pcc_12 | exact pcc_13 | exact pcc_14 | exact pcc_15 | exact pcc_22) (by rfl) ?_
    first | refine z_icmp_geN (pc' := 15) 7 rfl rfl (tgt := 70) rfl (by omega) (by omega) (fun h12 => ?_) (fun h12 => ?_) | refine z_icmp_ge (pc' := 15) 7 rfl rfl (tgt := 70) rfl (fun h12 => ?_) (fun h12 => ?_)
    · refine z_il3 (pc' := 71) 36 rfl rfl ?_
      exact z_ireturn 37 rfl rfl (by first | rfl | exact zbo_nar) rfl rfl (by exact K)
    · exfalso; omega
  | j + 1, k, b, e, eb, K => by
    have hi0 := hi.1
    have hi1 := hi.2.1
    have hh := hmo_le (mo := mo)
    have hb6 := cwN_le hi (t := (hmo mo)) (g := g) (L := lvl S (hmo mo) g th) k (by omega)
    rw [← eb] at hb6
    refine z_il4 (pc' := 8) 4 rfl rfl ?_
    refine z_al0 (pc' := 9) 5 rfl rfl ?_
    refine z_getf (pc' := 12) 6 rfl rfl f_Co_69_3 (by first | exact pcc_5 | exact pcc_6 | exact pcc_7 | exact pcc_8 | exact pcc_9 | exact pcc_10 | exact pcc_11 | exact pcc_12 | exact pcc_13 | exact pcc_14 | exact pcc_15 | exact pcc_22) (by rfl) ?_
    first | refine z_icmp_geN (pc' := 15) 7 rfl rfl (tgt := 70) rfl (by omega) (by omega) (fun h12 => ?_) (fun h12 => ?_) | refine z_icmp_ge (pc' := 15) 7 rfl rfl (tgt := 70) rfl (fun h12 => ?_) (fun h12 => ?_)
    · exfalso; omega
    · refine z_il2 (pc' := 16) 8 rfl rfl ?_
      refine z_bipush (v := nI 6) (by decide) (pc' := 18) 9 rfl rfl ?_
      first | refine z_icmp_eqN (pc' := 21) 10 rfl rfl (tgt := 38) rfl (by omega) (by omega) (fun h18 => ?_) (fun h18 => ?_) | refine z_icmp_eq (pc' := 21) 10 rfl rfl (tgt := 38) rfl (fun h18 => ?_) (fun h18 => ?_)
      · refine z_iconst (v := nI 1) (by decide) (pc' := 39) 20 rfl rfl ?_
        refine z_goto 21 rfl (tgt := 43) rfl ?_
        refine z_is5 rfl rfl (pc' := 45) 23 rfl rfl ?_
        refine z_il5 (pc' := 47) 24 rfl rfl ?_
        refine z_if_eq_f (pc' := 50) 25 rfl rfl (tgt := 64) rfl (by decide) ?_
        refine z_al0 (pc' := 51) 26 rfl rfl ?_
        refine z_il1 (pc' := 52) 27 rfl rfl ?_
        refine z_il4 (pc' := 54) 28 rfl rfl ?_
        refine z_il3 (pc' := 55) 29 rfl rfl ?_
        refine z_callV1 (pc' := 58) 30 rfl rfl k_Co_112 (by first | exact pcc_5 | exact pcc_6 | exact pcc_7 | exact pcc_8 | exact pcc_9 | exact pcc_10 | exact pcc_11 | exact pcc_12 | exact pcc_13 | exact pcc_14 | exact pcc_15 | exact pcc_22) (c_Co_girlLikes hi hm hg (by omega) hb6) (by decide) (Nat.le_refl _) (Nat.le_refl _) rfl rfl (Nat.le_of_ble_eq_true rfl) ?_
        first | refine z_if_eqB (pc' := 61) 31 rfl rfl (tgt := 64) rfl (fun h58 => ?_) (fun h58 => ?_) | refine z_if_eqN (pc' := 61) 31 rfl rfl (tgt := 64) rfl (by omega) (fun h58 => ?_) (fun h58 => ?_) | refine z_if_eq (pc' := 61) 31 rfl rfl (tgt := 64) rfl (fun h58 => ?_) (fun h58 => ?_)
        · first | refine z_inc4N rfl rfl (pc' := 67) 34 rfl rfl ?_ | refine z_inc4 rfl rfl rfl (pc' := 67) 34 rfl rfl ?_
          refine z_goto 35 rfl (tgt := 6) rfl ?_
          have hl : lvl S (hmo mo) g th ≤ ky S (hmo mo) g k := by unfold lvl; rw [if_pos h18]; exact Nat.zero_le _
          refine z_less5 ?_
          exact l_Co_nextLiked hi hm hg hth j (k + 1) _ (by omega) (by rw [cwN, if_neg (fun z => h58 (by rw [eb]; exact z.2))]; exact eb) K
        · refine z_il4 (pc' := 63) 32 rfl rfl ?_
          refine z_is3 rfl rfl (pc' := 64) 33 rfl rfl ?_
          first | refine z_inc4N rfl rfl (pc' := 67) 34 rfl rfl ?_ | refine z_inc4 rfl rfl rfl (pc' := 67) 34 rfl rfl ?_
          refine z_goto 35 rfl (tgt := 6) rfl ?_
          have hl : lvl S (hmo mo) g th ≤ ky S (hmo mo) g k := by unfold lvl; rw [if_pos h18]; exact Nat.zero_le _
          refine z_less5 ?_
          exact l_Co_nextLiked hi hm hg hth j (k + 1) _ (by omega) (by rw [cwN, if_pos ⟨hl, by rw [← eb]; exact h58⟩]) K
      · refine z_il4 (pc' := 23) 11 rfl rfl ?_
        refine z_il2 (pc' := 24) 12 rfl rfl ?_
        first | refine z_icmp_eqN (pc' := 27) 13 rfl rfl (tgt := 42) rfl (by omega) (by omega) (fun h24 => ?_) (fun h24 => ?_) | refine z_icmp_eq (pc' := 27) 13 rfl rfl (tgt := 42) rfl (fun h24 => ?_) (fun h24 => ?_)
        · refine z_iconst (v := nI 0) (by decide) (pc' := 43) 22 rfl rfl ?_
          refine z_is5 rfl rfl (pc' := 45) 23 rfl rfl ?_
          refine z_il5 (pc' := 47) 24 rfl rfl ?_
          refine z_if_eq_t 25 rfl (tgt := 64) rfl rfl ?_
          first | refine z_inc4N rfl rfl (pc' := 67) 34 rfl rfl ?_ | refine z_inc4 rfl rfl rfl (pc' := 67) 34 rfl rfl ?_
          refine z_goto 35 rfl (tgt := 6) rfl ?_
          have hl : ¬ lvl S (hmo mo) g th ≤ ky S (hmo mo) g k := by unfold lvl; rw [if_neg h18, h24]; omega
          refine z_less5 ?_
          exact l_Co_nextLiked hi hm hg hth j (k + 1) _ (by omega) (by rw [cwN, if_neg (fun z => hl z.1)]; exact eb) K
        · refine z_al0 (pc' := 28) 14 rfl rfl ?_
          refine z_il1 (pc' := 29) 15 rfl rfl ?_
          refine z_il2 (pc' := 30) 16 rfl rfl ?_
          refine z_il4 (pc' := 32) 17 rfl rfl ?_
          refine z_callV1 (pc' := 35) 18 rfl rfl k_Co_112 (by first | exact pcc_5 | exact pcc_6 | exact pcc_7 | exact pcc_8 | exact pcc_9 | exact pcc_10 | exact pcc_11 | exact pcc_12 | exact pcc_13 | exact pcc_14 | exact pcc_15 | exact pcc_22) (c_Co_girlLikes hi hm hg (by omega) (by omega)) (by decide) (Nat.le_refl _) (Nat.le_refl _) rfl rfl (Nat.le_of_ble_eq_true rfl) ?_
          first | refine z_if_eqB (pc' := 38) 19 rfl rfl (tgt := 42) rfl (fun h35 => ?_) (fun h35 => ?_) | refine z_if_eqN (pc' := 38) 19 rfl rfl (tgt := 42) rfl (by omega) (fun h35 => ?_) (fun h35 => ?_) | refine z_if_eq (pc' := 38) 19 rfl rfl (tgt := 42) rfl (fun h35 => ?_) (fun h35 => ?_)
          · refine z_iconst (v := nI 0) (by decide) (pc' := 43) 22 rfl rfl ?_
            refine z_is5 rfl rfl (pc' := 45) 23 rfl rfl ?_
            refine z_il5 (pc' := 47) 24 rfl rfl ?_
            refine z_if_eq_t 25 rfl (tgt := 64) rfl rfl ?_
            first | refine z_inc4N rfl rfl (pc' := 67) 34 rfl rfl ?_ | refine z_inc4 rfl rfl rfl (pc' := 67) 34 rfl rfl ?_
            refine z_goto 35 rfl (tgt := 6) rfl ?_
            have hl : ¬ lvl S (hmo mo) g th ≤ ky S (hmo mo) g k := by unfold lvl; rw [if_neg h18]; intro z; exact h35 ((lkB_k hi (by omega) (by omega)).mpr z)
            refine z_less5 ?_
            exact l_Co_nextLiked hi hm hg hth j (k + 1) _ (by omega) (by rw [cwN, if_neg (fun z => hl z.1)]; exact eb) K
          · refine z_iconst (v := nI 1) (by decide) (pc' := 39) 20 rfl rfl ?_
            refine z_goto 21 rfl (tgt := 43) rfl ?_
            refine z_is5 rfl rfl (pc' := 45) 23 rfl rfl ?_
            refine z_il5 (pc' := 47) 24 rfl rfl ?_
            refine z_if_eq_f (pc' := 50) 25 rfl rfl (tgt := 64) rfl (by decide) ?_
            refine z_al0 (pc' := 51) 26 rfl rfl ?_
            refine z_il1 (pc' := 52) 27 rfl rfl ?_
            refine z_il4 (pc' := 54) 28 rfl rfl ?_
            refine z_il3 (pc' := 55) 29 rfl rfl ?_
            refine z_callV1 (pc' := 58) 30 rfl rfl k_Co_112 (by first | exact pcc_5 | exact pcc_6 | exact pcc_7 | exact pcc_8 | exact pcc_9 | exact pcc_10 | exact pcc_11 | exact pcc_12 | exact pcc_13 | exact pcc_14 | exact pcc_15 | exact pcc_22) (c_Co_girlLikes hi hm hg (by omega) hb6) (by decide) (Nat.le_refl _) (Nat.le_refl _) rfl rfl (Nat.le_of_ble_eq_true rfl) ?_
            first | refine z_if_eqB (pc' := 61) 31 rfl rfl (tgt := 64) rfl (fun h58 => ?_) (fun h58 => ?_) | refine z_if_eqN (pc' := 61) 31 rfl rfl (tgt := 64) rfl (by omega) (fun h58 => ?_) (fun h58 => ?_) | refine z_if_eq (pc' := 61) 31 rfl rfl (tgt := 64) rfl (fun h58 => ?_) (fun h58 => ?_)
            · first | refine z_inc4N rfl rfl (pc' := 67) 34 rfl rfl ?_ | refine z_inc4 rfl rfl rfl (pc' := 67) 34 rfl rfl ?_
              refine z_goto 35 rfl (tgt := 6) rfl ?_
              have hl : lvl S (hmo mo) g th ≤ ky S (hmo mo) g k := by unfold lvl; rw [if_neg h18]; exact (lkB_k hi (by omega) (by omega)).mp h35
              refine z_less5 ?_
              exact l_Co_nextLiked hi hm hg hth j (k + 1) _ (by omega) (by rw [cwN, if_neg (fun z => h58 (by rw [eb]; exact z.2))]; exact eb) K
            · refine z_il4 (pc' := 63) 32 rfl rfl ?_
              refine z_is3 rfl rfl (pc' := 64) 33 rfl rfl ?_
              first | refine z_inc4N rfl rfl (pc' := 67) 34 rfl rfl ?_ | refine z_inc4 rfl rfl rfl (pc' := 67) 34 rfl rfl ?_
              refine z_goto 35 rfl (tgt := 6) rfl ?_
              have hl : lvl S (hmo mo) g th ≤ ky S (hmo mo) g k := by unfold lvl; rw [if_neg h18]; exact (lkB_k hi (by omega) (by omega)).mp h35
              refine z_less5 ?_
              exact l_Co_nextLiked hi hm hg hth j (k + 1) _ (by omega) (by rw [cwN, if_pos ⟨hl, by rw [← eb]; exact h58⟩]) K
set_option maxHeartbeats 4000000 in
set_option maxRecDepth 100000 in
theorem c_Co_nextLiked {G : zG} {n u : Nat} {ν : Nat → va_E} {S : Nat → Nat → Nat} {sc ch : Int32} {mo cs : Nat} {pr fa q : Nat → Nat} (hi : iS S) (hm : mo ≤ 16) {g th : Nat} (hg : g < 6) (hth : th < S 0 1 ∨ th = 6) :
    zMet G 3 M_Co_nextLiked [.ref 5, .int (nI g), .int (nI th)] n u (pcc ν S sc ch mo cs pr fa q) n u (zE (some (.int (nI (cwN S (hmo mo) g (lvl S (hmo mo) g th) (S 0 1))))) (pcc ν S sc ch mo cs pr fa q)) := by
  refine z_start (lv := [.ref 5, .int (nI g), .int (nI th), .retAddr 0, .retAddr 0, .retAddr 0]) K_Co_nextLiked rfl rfl (Nat.le_refl _) (Nat.le_refl _) (Nat.le_of_ble_eq_true rfl) rfl ?_
  refine z_bipush (v := nI 6) (by decide) (pc' := 2) 0 rfl rfl ?_
  refine z_is3 rfl rfl (pc' := 3) 1 rfl rfl ?_
  refine z_iconst (v := nI 0) (by decide) (pc' := 4) 2 rfl rfl ?_
  refine z_is4 rfl rfl (pc' := 6) 3 rfl rfl ?_
  exact l_Co_nextLiked hi hm hg hth (S 0 1) 0 6 (by omega) rfl ⟨rfl, rfl⟩
set_option maxHeartbeats 4000000 in
set_option maxRecDepth 100000 in
theorem l_Co_refusedGirl1 {G : zG} {n u : Nat} {ν : Nat → va_E} {S : Nat → Nat → Nat} {sc ch : Int32} {mo cs : Nat} {pr fa q : Nat → Nat} {ψ : Nat → Int32} {C : Nat → Nat} (hψ : ∀ i, i < S 0 0 → ψ i = nI (C i)) (hC : ∀ i, i < S 0 0 → C i < S 0 1 ∨ C i = 6) (hi : iS S) {g k0 : Nat} (hg : g < S 0 0) {Φ : zP} : ∀ j h, h + j = S 0 0 → (Φ (some (.int (hasI (rfH S C g k0 j h)))) (pcc (zu ν 23 (.inl (0, 6, .inl ψ))) S sc ch mo cs pr fa q)) → (Φ (some (.int (hasI k0))) (pcc (zu ν 23 (.inl (0, 6, .inl ψ))) S sc ch mo cs pr fa q) → zW G 2 M_Co_refusedGirl 75 [.ref 5, .int (nI g), .int (nI (S 0 0))] [] n u (pcc (zu ν 23 (.inl (0, 6, .inl ψ))) S sc ch mo cs pr fa q) n u Φ) →
    zW G 2 M_Co_refusedGirl 14 [.ref 5, .int (nI g), .int (nI h)] [] n u (pcc (zu ν 23 (.inl (0, 6, .inl ψ))) S sc ch mo cs pr fa q) n u Φ
  | 0, h, e, K, K2 => by
    have hi0 := hi.1
    have hi1 := hi.2.1
    have hcg := hC g hg
    obtain rfl : h = S 0 0 := by omega
    refine z_il2 (pc' := 15) 10 rfl rfl ?_
    refine z_al0 (pc' := 16) 11 rfl rfl ?_
    refine z_getf (pc' := 19) 12 rfl rfl f_Co_60_3 (by first | exact pcc_5 | exact pcc_6 | exact pcc_7 | exact pcc_8 | exact pcc_9 | exact pcc_10 | exact pcc_11 | exact pcc_12 | exact pcc_13 | exact pcc_14 | exact pcc_15 | exact pcc_22 | (rw [pcc_o (by decide)]; exact zu_s)) (by rfl) ?_
    first | refine z_icmp_geN (pc' := 22) 13 rfl rfl (tgt := 75) rfl (by omega) (by omega) (fun h19 => ?_) (fun h19 => ?_) | refine z_icmp_ge (pc' := 22) 13 rfl rfl (tgt := 75) rfl (fun h19 => ?_) (fun h19 => ?_)
    · exact K2 K
    · exfalso; omega
  | j + 1, h, e, K, K2 => by
    have hi0 := hi.1
    have hi1 := hi.2.1
    have hcg := hC g hg
    have hch := hC h (by omega)
    refine z_il2 (pc' := 15) 10 rfl rfl ?_
    refine z_al0 (pc' := 16) 11 rfl rfl ?_
    refine z_getf (pc' := 19) 12 rfl rfl f_Co_60_3 (by first | exact pcc_5 | exact pcc_6 | exact pcc_7 | exact pcc_8 | exact pcc_9 | exact pcc_10 | exact pcc_11 | exact pcc_12 | exact pcc_13 | exact pcc_14 | exact pcc_15 | exact pcc_22 | (rw [pcc_o (by decide)]; exact zu_s)) (by rfl) ?_
    first | refine z_icmp_geN (pc' := 22) 13 rfl rfl (tgt := 75) rfl (by omega) (by omega) (fun h19 => ?_) (fun h19 => ?_) | refine z_icmp_ge (pc' := 22) 13 rfl rfl (tgt := 75) rfl (fun h19 => ?_) (fun h19 => ?_)
    · exfalso; omega
    · refine z_al0 (pc' := 23) 14 rfl rfl ?_
      refine z_getf (pc' := 26) 15 rfl rfl f_Co_57_3 (by first | exact pcc_5 | exact pcc_6 | exact pcc_7 | exact pcc_8 | exact pcc_9 | exact pcc_10 | exact pcc_11 | exact pcc_12 | exact pcc_13 | exact pcc_14 | exact pcc_15 | exact pcc_22 | (rw [pcc_o (by decide)]; exact zu_s)) (by rfl) ?_
      refine z_il1 (pc' := 27) 16 rfl rfl ?_
      refine z_iald (pc' := 28) 17 rfl rfl (by first | exact pcc_5 | exact pcc_6 | exact pcc_7 | exact pcc_8 | exact pcc_9 | exact pcc_10 | exact pcc_11 | exact pcc_12 | exact pcc_13 | exact pcc_14 | exact pcc_15 | exact pcc_22 | (rw [pcc_o (by decide)]; exact zu_s)) (by omega) (by decide) ?_
      rw [hψ _ (by omega)]
      refine z_bipush (v := nI 6) (by decide) (pc' := 30) 18 rfl rfl ?_
      first | refine z_icmp_eqN (pc' := 33) 19 rfl rfl (tgt := 69) rfl (by omega) (by omega) (fun h30 => ?_) (fun h30 => ?_) | refine z_icmp_eq (pc' := 33) 19 rfl rfl (tgt := 69) rfl (fun h30 => ?_) (fun h30 => ?_)
      · first | refine z_inc2N rfl rfl (pc' := 72) 42 rfl rfl ?_ | refine z_inc2 rfl rfl rfl (pc' := 72) 42 rfl rfl ?_
        refine z_goto 43 rfl (tgt := 14) rfl ?_
        refine l_Co_refusedGirl1 hψ hC hi hg j (h + 1) (by omega) ?_ K2
        rw [rfH, if_neg (fun z => z.1 h30)] at K
        exact K
      · refine z_al0 (pc' := 34) 20 rfl rfl ?_
        refine z_getf (pc' := 37) 21 rfl rfl f_Co_57_3 (by first | exact pcc_5 | exact pcc_6 | exact pcc_7 | exact pcc_8 | exact pcc_9 | exact pcc_10 | exact pcc_11 | exact pcc_12 | exact pcc_13 | exact pcc_14 | exact pcc_15 | exact pcc_22 | (rw [pcc_o (by decide)]; exact zu_s)) (by rfl) ?_
        refine z_il1 (pc' := 38) 22 rfl rfl ?_
        refine z_iald (pc' := 39) 23 rfl rfl (by first | exact pcc_5 | exact pcc_6 | exact pcc_7 | exact pcc_8 | exact pcc_9 | exact pcc_10 | exact pcc_11 | exact pcc_12 | exact pcc_13 | exact pcc_14 | exact pcc_15 | exact pcc_22 | (rw [pcc_o (by decide)]; exact zu_s)) (by omega) (by decide) ?_
        rw [hψ _ (by omega)]
        refine z_al0 (pc' := 40) 24 rfl rfl ?_
        refine z_getf (pc' := 43) 25 rfl rfl f_Co_57_3 (by first | exact pcc_5 | exact pcc_6 | exact pcc_7 | exact pcc_8 | exact pcc_9 | exact pcc_10 | exact pcc_11 | exact pcc_12 | exact pcc_13 | exact pcc_14 | exact pcc_15 | exact pcc_22 | (rw [pcc_o (by decide)]; exact zu_s)) (by rfl) ?_
        refine z_il2 (pc' := 44) 26 rfl rfl ?_
        refine z_iald (pc' := 45) 27 rfl rfl (by first | exact pcc_5 | exact pcc_6 | exact pcc_7 | exact pcc_8 | exact pcc_9 | exact pcc_10 | exact pcc_11 | exact pcc_12 | exact pcc_13 | exact pcc_14 | exact pcc_15 | exact pcc_22 | (rw [pcc_o (by decide)]; exact zu_s)) (by omega) (by decide) ?_
        rw [hψ _ (by omega)]
        first | refine z_icmp_neN (pc' := 48) 28 rfl rfl (tgt := 69) rfl (by omega) (by omega) (fun h45 => ?_) (fun h45 => ?_) | refine z_icmp_ne (pc' := 48) 28 rfl rfl (tgt := 69) rfl (fun h45 => ?_) (fun h45 => ?_)
        · first | refine z_inc2N rfl rfl (pc' := 72) 42 rfl rfl ?_ | refine z_inc2 rfl rfl rfl (pc' := 72) 42 rfl rfl ?_
          refine z_goto 43 rfl (tgt := 14) rfl ?_
          refine l_Co_refusedGirl1 hψ hC hi hg j (h + 1) (by omega) ?_ K2
          rw [rfH, if_neg (fun z => h45 z.2)] at K
          exact K
        · refine z_al0 (pc' := 49) 29 rfl rfl ?_
          refine z_al0 (pc' := 50) 30 rfl rfl ?_
          refine z_getf (pc' := 53) 31 rfl rfl f_Co_57_3 (by first | exact pcc_5 | exact pcc_6 | exact pcc_7 | exact pcc_8 | exact pcc_9 | exact pcc_10 | exact pcc_11 | exact pcc_12 | exact pcc_13 | exact pcc_14 | exact pcc_15 | exact pcc_22 | (rw [pcc_o (by decide)]; exact zu_s)) (by rfl) ?_
          refine z_il1 (pc' := 54) 32 rfl rfl ?_
          refine z_iald (pc' := 55) 33 rfl rfl (by first | exact pcc_5 | exact pcc_6 | exact pcc_7 | exact pcc_8 | exact pcc_9 | exact pcc_10 | exact pcc_11 | exact pcc_12 | exact pcc_13 | exact pcc_14 | exact pcc_15 | exact pcc_22 | (rw [pcc_o (by decide)]; exact zu_s)) (by omega) (by decide) ?_
          rw [hψ _ (by omega)]
          refine z_il1 (pc' := 56) 34 rfl rfl ?_
          refine z_il2 (pc' := 57) 35 rfl rfl ?_
          refine z_callV1 (pc' := 60) 36 rfl rfl k_Co_116 (by first | exact pcc_5 | exact pcc_6 | exact pcc_7 | exact pcc_8 | exact pcc_9 | exact pcc_10 | exact pcc_11 | exact pcc_12 | exact pcc_13 | exact pcc_14 | exact pcc_15 | exact pcc_22 | (rw [pcc_o (by decide)]; exact zu_s)) (c_Co_windLikes hi (by omega) (by omega) (by omega)) (by decide) (Nat.le_refl _) (Nat.le_refl _) rfl rfl (Nat.le_of_ble_eq_true rfl) ?_
          first | refine z_if_eqB (pc' := 63) 37 rfl rfl (tgt := 67) rfl (fun h60 => ?_) (fun h60 => ?_) | refine z_if_eqN (pc' := 63) 37 rfl rfl (tgt := 67) rfl (by omega) (fun h60 => ?_) (fun h60 => ?_) | refine z_if_eq (pc' := 63) 37 rfl rfl (tgt := 67) rfl (fun h60 => ?_) (fun h60 => ?_)
          · refine z_il1 (pc' := 68) 40 rfl rfl ?_
            exact z_ireturn 41 rfl rfl (by first | rfl | exact zbo_nar) rfl rfl (by rw [rfH, if_pos ⟨h30, h45⟩, if_neg h60, hasI_n (by omega)] at K; exact K)
          · refine z_il2 (pc' := 64) 38 rfl rfl ?_
            refine z_goto 39 rfl (tgt := 68) rfl ?_
            exact z_ireturn 41 rfl rfl (by first | rfl | exact zbo_nar) rfl rfl (by rw [rfH, if_pos ⟨h30, h45⟩, if_pos h60, hasI_n (by omega)] at K; exact K)
set_option maxHeartbeats 4000000 in
set_option maxRecDepth 100000 in
theorem l_Co_refusedGirl2 {G : zG} {n u : Nat} {ν : Nat → va_E} {S : Nat → Nat → Nat} {sc ch : Int32} {mo cs : Nat} {pr fa q : Nat → Nat} {ψ : Nat → Int32} {C : Nat → Nat} (hψ : ∀ i, i < S 0 0 → ψ i = nI (C i)) (hC : ∀ i, i < S 0 0 → C i < S 0 1 ∨ C i = 6) (hi : iS S) {Φ : zP} : ∀ j g, g + j = S 0 0 → (Φ (some (.int (hasI (rfG S C j g)))) (pcc (zu ν 23 (.inl (0, 6, .inl ψ))) S sc ch mo cs pr fa q)) →
    zW G 2 M_Co_refusedGirl 2 [.ref 5, .int (nI g), .retAddr 0] [] n u (pcc (zu ν 23 (.inl (0, 6, .inl ψ))) S sc ch mo cs pr fa q) n u Φ
  | 0, g, e, K => by
    have hi0 := hi.1
    refine z_il1 (pc' := 3) 2 rfl rfl ?_
    refine z_al0 (pc' := 4) 3 rfl rfl ?_
    refine z_getf (pc' := 7) 4 rfl rfl f_Co_60_3 (by first | exact pcc_5 | exact pcc_6 | exact pcc_7 | exact pcc_8 | exact pcc_9 | exact pcc_10 | exact pcc_11 | exact pcc_12 | exact pcc_13 | exact pcc_14 | exact pcc_15 | exact pcc_22 | (rw [pcc_o (by decide)]; exact zu_s)) (by rfl) ?_
    first | refine z_icmp_geN (pc' := 10) 5 rfl rfl (tgt := 81) rfl (by omega) (by omega) (fun h7 => ?_) (fun h7 => ?_) | refine z_icmp_ge (pc' := 10) 5 rfl rfl (tgt := 81) rfl (fun h7 => ?_) (fun h7 => ?_)
    · refine z_iconst (v := (-1)) (by decide) (pc' := 82) 46 rfl rfl ?_
      exact z_ireturn 47 rfl rfl (by first | rfl | exact zbo_nar) rfl rfl (by exact K)
    · exfalso; omega
  | j + 1, g, e, K => by
    have hi0 := hi.1
    refine z_il1 (pc' := 3) 2 rfl rfl ?_
    refine z_al0 (pc' := 4) 3 rfl rfl ?_
    refine z_getf (pc' := 7) 4 rfl rfl f_Co_60_3 (by first | exact pcc_5 | exact pcc_6 | exact pcc_7 | exact pcc_8 | exact pcc_9 | exact pcc_10 | exact pcc_11 | exact pcc_12 | exact pcc_13 | exact pcc_14 | exact pcc_15 | exact pcc_22 | (rw [pcc_o (by decide)]; exact zu_s)) (by rfl) ?_
    first | refine z_icmp_geN (pc' := 10) 5 rfl rfl (tgt := 81) rfl (by omega) (by omega) (fun h7 => ?_) (fun h7 => ?_) | refine z_icmp_ge (pc' := 10) 5 rfl rfl (tgt := 81) rfl (fun h7 => ?_) (fun h7 => ?_)
    · exfalso; omega
    · refine z_il1 (pc' := 11) 6 rfl rfl ?_
      refine z_iconst (v := nI 1) (by decide) (pc' := 12) 7 rfl rfl ?_
      first | refine z_iaddN (pc' := 13) 8 rfl rfl ?_ | refine z_iadd (pc' := 13) 8 rfl rfl ?_
      refine z_is2 rfl rfl (pc' := 14) 9 rfl rfl ?_
      refine l_Co_refusedGirl1 hψ hC hi (by omega) j (g + 1) (by omega) K (fun K2 => ?_)
      first | refine z_inc1N rfl rfl (pc' := 78) 44 rfl rfl ?_ | refine z_inc1 rfl rfl rfl (pc' := 78) 44 rfl rfl ?_
      refine z_goto 45 rfl (tgt := 2) rfl ?_
      refine z_less2 ?_
      exact l_Co_refusedGirl2 hψ hC hi j (g + 1) (by omega) K2
set_option maxHeartbeats 4000000 in
set_option maxRecDepth 100000 in
theorem c_Co_refusedGirl {G : zG} {n u : Nat} {ν : Nat → va_E} {S : Nat → Nat → Nat} {sc ch : Int32} {mo cs : Nat} {pr fa q : Nat → Nat} {ψ : Nat → Int32} {C : Nat → Nat} (hψ : ∀ i, i < S 0 0 → ψ i = nI (C i)) (hC : ∀ i, i < S 0 0 → C i < S 0 1 ∨ C i = 6) (hi : iS S) :
    zMet G 2 M_Co_refusedGirl [.ref 5] n u (pcc (zu ν 23 (.inl (0, 6, .inl ψ))) S sc ch mo cs pr fa q) n u (zE (some (.int (hasI (rfG S C (S 0 0) 0)))) (pcc (zu ν 23 (.inl (0, 6, .inl ψ))) S sc ch mo cs pr fa q)) := by
  refine z_start (lv := [.ref 5, .retAddr 0, .retAddr 0]) K_Co_refusedGirl rfl rfl (Nat.le_refl _) (Nat.le_refl _) (Nat.le_of_ble_eq_true rfl) rfl ?_
  refine z_iconst (v := nI 0) (by decide) (pc' := 1) 0 rfl rfl ?_
  refine z_is1 rfl rfl (pc' := 2) 1 rfl rfl ?_
  exact l_Co_refusedGirl2 hψ hC hi (S 0 0) 0 (by omega) ⟨rfl, rfl⟩
set_option maxHeartbeats 4000000 in
set_option maxRecDepth 100000 in
theorem l_Co_keptWind1 {G : zG} {n u : Nat} {ν : Nat → va_E} {S : Nat → Nat → Nat} {sc ch : Int32} {mo cs : Nat} {pr fa q : Nat → Nat} (hi : iS S) (hm : mo ≤ 16) {g : Nat} {Φ : zP} (K : ∀ ψ : Nat → Int32, (∀ i, i < S 0 0 → ψ i = nI (cW S (hmo mo) (fun _ => 0) i)) → zW G 4 M_Co_keptWind 29 [.ref 5, .int (nI g), .int (nI (S 0 0)), .retAddr 0] [] n u (pcc (zu ν 23 (.inl (0, 6, .inl ψ))) S sc ch mo cs pr fa q) n u Φ) : ∀ j k (ψ : Nat → Int32), k + j = S 0 0 → (∀ i, i < k → ψ i = nI (cW S (hmo mo) (fun _ => 0) i)) →
    zW G 4 M_Co_keptWind 2 [.ref 5, .int (nI g), .int (nI k), .retAddr 0] [] n u (pcc (zu ν 23 (.inl (0, 6, .inl ψ))) S sc ch mo cs pr fa q) n u Φ
  | 0, k, ψ, e, h => by
    have hi0 := hi.1
    have hi1 := hi.2.1
    have hh := hmo_le (mo := mo)
    obtain rfl : k = S 0 0 := by omega
    refine z_il2 (pc' := 3) 2 rfl rfl ?_
    refine z_al0 (pc' := 4) 3 rfl rfl ?_
    refine z_getf (pc' := 7) 4 rfl rfl f_Co_60_3 (by first | exact pcc_5 | exact pcc_6 | exact pcc_7 | exact pcc_8 | exact pcc_9 | exact pcc_10 | exact pcc_11 | exact pcc_12 | exact pcc_13 | exact pcc_14 | exact pcc_15 | exact pcc_22 | (rw [pcc_o (by decide)]; exact zu_s)) (by rfl) ?_
    first | refine z_icmp_geN (pc' := 10) 5 rfl rfl (tgt := 29) rfl (by omega) (by omega) (fun h7 => ?_) (fun h7 => ?_) | refine z_icmp_ge (pc' := 10) 5 rfl rfl (tgt := 29) rfl (fun h7 => ?_) (fun h7 => ?_)
    · exact K ψ h
    · exfalso; omega
  | j + 1, k, ψ, e, h => by
    have hi0 := hi.1
    have hi1 := hi.2.1
    have hh := hmo_le (mo := mo)
    refine z_il2 (pc' := 3) 2 rfl rfl ?_
    refine z_al0 (pc' := 4) 3 rfl rfl ?_
    refine z_getf (pc' := 7) 4 rfl rfl f_Co_60_3 (by first | exact pcc_5 | exact pcc_6 | exact pcc_7 | exact pcc_8 | exact pcc_9 | exact pcc_10 | exact pcc_11 | exact pcc_12 | exact pcc_13 | exact pcc_14 | exact pcc_15 | exact pcc_22 | (rw [pcc_o (by decide)]; exact zu_s)) (by rfl) ?_
    first | refine z_icmp_geN (pc' := 10) 5 rfl rfl (tgt := 29) rfl (by omega) (by omega) (fun h7 => ?_) (fun h7 => ?_) | refine z_icmp_ge (pc' := 10) 5 rfl rfl (tgt := 29) rfl (fun h7 => ?_) (fun h7 => ?_)
    · exfalso; omega
    · refine z_al0 (pc' := 11) 6 rfl rfl ?_
      refine z_getf (pc' := 14) 7 rfl rfl f_Co_57_3 (by first | exact pcc_5 | exact pcc_6 | exact pcc_7 | exact pcc_8 | exact pcc_9 | exact pcc_10 | exact pcc_11 | exact pcc_12 | exact pcc_13 | exact pcc_14 | exact pcc_15 | exact pcc_22 | (rw [pcc_o (by decide)]; exact zu_s)) (by rfl) ?_
      refine z_il2 (pc' := 15) 8 rfl rfl ?_
      refine z_al0 (pc' := 16) 9 rfl rfl ?_
      refine z_il2 (pc' := 17) 10 rfl rfl ?_
      refine z_bipush (v := nI 6) (by decide) (pc' := 19) 11 rfl rfl ?_
      refine z_callV1 (pc' := 22) 12 rfl rfl k_Co_119 (by first | exact pcc_5 | exact pcc_6 | exact pcc_7 | exact pcc_8 | exact pcc_9 | exact pcc_10 | exact pcc_11 | exact pcc_12 | exact pcc_13 | exact pcc_14 | exact pcc_15 | exact pcc_22 | (rw [pcc_o (by decide)]; exact zu_s)) (c_Co_nextLiked hi hm (by omega) (Or.inr rfl)) (by decide) (Nat.le_refl _) (Nat.le_refl _) rfl rfl (Nat.le_of_ble_eq_true rfl) ?_
      refine z_iast (pc' := 23) 13 rfl rfl (by first | exact pcc_5 | exact pcc_6 | exact pcc_7 | exact pcc_8 | exact pcc_9 | exact pcc_10 | exact pcc_11 | exact pcc_12 | exact pcc_13 | exact pcc_14 | exact pcc_15 | exact pcc_22 | (rw [pcc_o (by decide)]; exact zu_s)) (by omega) (by decide) ?_
      rw [pcc_out (by decide), zu_zu]
      first | refine z_inc2N rfl rfl (pc' := 26) 14 rfl rfl ?_ | refine z_inc2 rfl rfl rfl (pc' := 26) 14 rfl rfl ?_
      refine z_goto 15 rfl (tgt := 2) rfl ?_
      refine l_Co_keptWind1 hi hm K j (k + 1) _ (by omega) (fun i hik => ?_)
      by_cases z : i = k
      · subst z; exact upd_at
      · rw [upd_no z]; exact h i (by omega)
set_option maxHeartbeats 4000000 in
set_option maxRecDepth 100000 in
theorem l_Co_keptWind2 {G : zG} {n u : Nat} {ν : Nat → va_E} {S : Nat → Nat → Nat} {sc ch : Int32} {mo cs : Nat} {pr fa q : Nat → Nat} (hi : iS S) (hm : mo ≤ 16) {g : Nat} (hg : g < S 0 0) {Φ : zP} : ∀ j k X (ψ : Nat → Int32) v, k + j = 37 → (∀ i, i < S 0 0 → ψ i = nI (cW S (hmo mo) X i)) → (∀ ψ : Nat → Int32, Φ (some (.int (nI (cW S (hmo mo) (kpL S (hmo mo) j X) g)))) (pcc (zu ν 23 (.inl (0, 6, .inl ψ))) S sc ch mo cs pr fa q)) →
    zW G 4 M_Co_keptWind 31 [.ref 5, .int (nI g), .int (nI k), v] [] n u (pcc (zu ν 23 (.inl (0, 6, .inl ψ))) S sc ch mo cs pr fa q) n u Φ
  | 0, k, X, ψ, v, e, h, K => by
    have hi0 := hi.1
    have hi1 := hi.2.1
    have hh := hmo_le (mo := mo)
    refine z_il2 (pc' := 32) 18 rfl rfl ?_
    refine z_bipush (v := nI 36) (by decide) (pc' := 34) 19 rfl rfl ?_
    first | refine z_icmp_gtN (pc' := 37) 20 rfl rfl (tgt := 72) rfl (by omega) (by omega) (fun h34 => ?_) (fun h34 => ?_) | refine z_icmp_gt (pc' := 37) 20 rfl rfl (tgt := 72) rfl (fun h34 => ?_) (fun h34 => ?_)
    · refine z_al0 (pc' := 73) 40 rfl rfl ?_
      refine z_getf (pc' := 76) 41 rfl rfl f_Co_57_3 (by first | exact pcc_5 | exact pcc_6 | exact pcc_7 | exact pcc_8 | exact pcc_9 | exact pcc_10 | exact pcc_11 | exact pcc_12 | exact pcc_13 | exact pcc_14 | exact pcc_15 | exact pcc_22 | (rw [pcc_o (by decide)]; exact zu_s)) (by rfl) ?_
      refine z_il1 (pc' := 77) 42 rfl rfl ?_
      refine z_iald (pc' := 78) 43 rfl rfl (by first | exact pcc_5 | exact pcc_6 | exact pcc_7 | exact pcc_8 | exact pcc_9 | exact pcc_10 | exact pcc_11 | exact pcc_12 | exact pcc_13 | exact pcc_14 | exact pcc_15 | exact pcc_22 | (rw [pcc_o (by decide)]; exact zu_s)) (by omega) (by decide) ?_
      rw [h _ hg]
      exact z_ireturn 44 rfl rfl (by first | rfl | exact zbo_nar) rfl rfl (by exact K ψ)
    · exfalso; omega
  | j + 1, k, X, ψ, v, e, h, K => by
    have hi0 := hi.1
    have hi1 := hi.2.1
    have hh := hmo_le (mo := mo)
    have hC : ∀ i, i < S 0 0 → cW S (hmo mo) X i < S 0 1 ∨ cW S (hmo mo) X i = 6 := fun i _ => by
      rcases cw_s hi (t := (hmo mo)) (g := i) (L := X i) with ⟨a, _⟩ | ⟨a, _⟩
      · exact Or.inr a
      · exact Or.inl a
    have hr := rfG_s (S := S) (C := cW S (hmo mo) X) (S 0 0) 0 (by omega)
    have hr6 : rfG S (cW S (hmo mo) X) (S 0 0) 0 ≤ 6 := by
      rcases hr with ⟨h', q, _⟩ | ⟨q, _⟩ <;> omega
    refine z_il2 (pc' := 32) 18 rfl rfl ?_
    refine z_bipush (v := nI 36) (by decide) (pc' := 34) 19 rfl rfl ?_
    first | refine z_icmp_gtN (pc' := 37) 20 rfl rfl (tgt := 72) rfl (by omega) (by omega) (fun h34 => ?_) (fun h34 => ?_) | refine z_icmp_gt (pc' := 37) 20 rfl rfl (tgt := 72) rfl (fun h34 => ?_) (fun h34 => ?_)
    · exfalso; omega
    · refine z_al0 (pc' := 38) 21 rfl rfl ?_
      refine z_callV1 (pc' := 41) 22 rfl rfl k_Co_122 (by first | exact pcc_5 | exact pcc_6 | exact pcc_7 | exact pcc_8 | exact pcc_9 | exact pcc_10 | exact pcc_11 | exact pcc_12 | exact pcc_13 | exact pcc_14 | exact pcc_15 | exact pcc_22 | (rw [pcc_o (by decide)]; exact zu_s)) (c_Co_refusedGirl h hC hi) (by decide) (Nat.le_refl _) (Nat.le_refl _) rfl rfl (Nat.le_of_ble_eq_true rfl) ?_
      refine z_is3 rfl rfl (pc' := 42) 23 rfl rfl ?_
      refine z_il3 (pc' := 43) 24 rfl rfl ?_
      first | refine z_if_geH (pc' := 46) 25 rfl rfl (tgt := 49) rfl hr6 (fun h43 => ?_) (fun h43 => ?_) | refine z_if_geN (pc' := 46) 25 rfl rfl (tgt := 49) rfl (by omega) (fun h43 => ?_) (fun h43 => ?_) | refine z_if_ge (pc' := 46) 25 rfl rfl (tgt := 49) rfl (fun h43 => ?_) (fun h43 => ?_)
      · rw [hasI_n h43]
        obtain ⟨h9, q1, q2, q3, q4, q5, q6⟩ := hr.resolve_right (fun z => h43 z.1)
        refine z_al0 (pc' := 50) 27 rfl rfl ?_
        refine z_getf (pc' := 53) 28 rfl rfl f_Co_57_3 (by first | exact pcc_5 | exact pcc_6 | exact pcc_7 | exact pcc_8 | exact pcc_9 | exact pcc_10 | exact pcc_11 | exact pcc_12 | exact pcc_13 | exact pcc_14 | exact pcc_15 | exact pcc_22 | (rw [pcc_o (by decide)]; exact zu_s)) (by rfl) ?_
        refine z_il3 (pc' := 54) 29 rfl rfl ?_
        refine z_al0 (pc' := 55) 30 rfl rfl ?_
        refine z_il3 (pc' := 56) 31 rfl rfl ?_
        refine z_al0 (pc' := 57) 32 rfl rfl ?_
        refine z_getf (pc' := 60) 33 rfl rfl f_Co_57_3 (by first | exact pcc_5 | exact pcc_6 | exact pcc_7 | exact pcc_8 | exact pcc_9 | exact pcc_10 | exact pcc_11 | exact pcc_12 | exact pcc_13 | exact pcc_14 | exact pcc_15 | exact pcc_22 | (rw [pcc_o (by decide)]; exact zu_s)) (by rfl) ?_
        refine z_il3 (pc' := 61) 34 rfl rfl ?_
        refine z_iald (pc' := 62) 35 rfl rfl (by first | exact pcc_5 | exact pcc_6 | exact pcc_7 | exact pcc_8 | exact pcc_9 | exact pcc_10 | exact pcc_11 | exact pcc_12 | exact pcc_13 | exact pcc_14 | exact pcc_15 | exact pcc_22 | (rw [pcc_o (by decide)]; exact zu_s)) (by omega) (by decide) ?_
        rw [h _ q1]
        refine z_callV1 (pc' := 65) 36 rfl rfl k_Co_119 (by first | exact pcc_5 | exact pcc_6 | exact pcc_7 | exact pcc_8 | exact pcc_9 | exact pcc_10 | exact pcc_11 | exact pcc_12 | exact pcc_13 | exact pcc_14 | exact pcc_15 | exact pcc_22 | (rw [pcc_o (by decide)]; exact zu_s)) (c_Co_nextLiked hi hm (by omega) (hC _ (by omega))) (by decide) (Nat.le_refl _) (Nat.le_refl _) rfl rfl (Nat.le_of_ble_eq_true rfl) ?_
        refine z_iast (pc' := 66) 37 rfl rfl (by first | exact pcc_5 | exact pcc_6 | exact pcc_7 | exact pcc_8 | exact pcc_9 | exact pcc_10 | exact pcc_11 | exact pcc_12 | exact pcc_13 | exact pcc_14 | exact pcc_15 | exact pcc_22 | (rw [pcc_o (by decide)]; exact zu_s)) (by omega) (by decide) ?_
        rw [pcc_out (by decide), zu_zu]
        first | refine z_inc2N rfl rfl (pc' := 69) 38 rfl rfl ?_ | refine z_inc2 rfl rfl rfl (pc' := 69) 38 rfl rfl ?_
        refine z_goto 39 rfl (tgt := 31) rfl ?_
        rw [kpL, if_neg h43] at K
        refine l_Co_keptWind2 hi hm hg j (k + 1) _ _ _ (by omega) (fun i hin => ?_) K
        by_cases z : i = rfG S (cW S (hmo mo) X) (S 0 0) 0
        · rw [z, upd_at]
          show nI (cwN S (hmo mo) _ (lvl S (hmo mo) _ _) (S 0 1)) = nI (cwN S (hmo mo) _ (un X _ _ _) (S 0 1))
          rw [un_s, lvl, if_neg q4]
        · rw [upd_no z, h i hin]
          show _ = nI (cwN S (hmo mo) _ (un X _ _ _) (S 0 1))
          rw [un_n z]
      · refine z_goto 26 rfl (tgt := 72) rfl ?_
        rw [kpL, if_pos h43] at K
        refine z_al0 (pc' := 73) 40 rfl rfl ?_
        refine z_getf (pc' := 76) 41 rfl rfl f_Co_57_3 (by first | exact pcc_5 | exact pcc_6 | exact pcc_7 | exact pcc_8 | exact pcc_9 | exact pcc_10 | exact pcc_11 | exact pcc_12 | exact pcc_13 | exact pcc_14 | exact pcc_15 | exact pcc_22 | (rw [pcc_o (by decide)]; exact zu_s)) (by rfl) ?_
        refine z_il1 (pc' := 77) 42 rfl rfl ?_
        refine z_iald (pc' := 78) 43 rfl rfl (by first | exact pcc_5 | exact pcc_6 | exact pcc_7 | exact pcc_8 | exact pcc_9 | exact pcc_10 | exact pcc_11 | exact pcc_12 | exact pcc_13 | exact pcc_14 | exact pcc_15 | exact pcc_22 | (rw [pcc_o (by decide)]; exact zu_s)) (by omega) (by decide) ?_
        rw [h _ hg]
        exact z_ireturn 44 rfl rfl (by first | rfl | exact zbo_nar) rfl rfl (by exact K ψ)
set_option maxHeartbeats 4000000 in
set_option maxRecDepth 100000 in
theorem c_Co_keptWind {G : zG} {n u : Nat} {ν : Nat → va_E} {S : Nat → Nat → Nat} {sc ch : Int32} {mo cs : Nat} {pr fa q : Nat → Nat} {ψ : Nat → Int32} (hi : iS S) (hm : mo ≤ 16) {g : Nat} (hg : g < S 0 0) :
    zMet G 4 M_Co_keptWind [.ref 5, .int (nI g)] n u (pcc (zu ν 23 (.inl (0, 6, .inl ψ))) S sc ch mo cs pr fa q) n u (zS (some (.int (nI (cW S (hmo mo) (kpL S (hmo mo) 37 (fun _ => 0)) g)))) (fun ψ : Nat → Int32 => pcc (zu ν 23 (.inl (0, 6, .inl ψ))) S sc ch mo cs pr fa q)) := by
  refine z_start (lv := [.ref 5, .int (nI g), .retAddr 0, .retAddr 0]) K_Co_keptWind rfl rfl (Nat.le_refl _) (Nat.le_refl _) (Nat.le_of_ble_eq_true rfl) rfl ?_
  refine z_iconst (v := nI 0) (by decide) (pc' := 1) 0 rfl rfl ?_
  refine z_is2 rfl rfl (pc' := 2) 1 rfl rfl ?_
  refine l_Co_keptWind1 hi hm (fun ψ h => ?_) (S 0 0) 0 _ (by omega) (fun i h => absurd h (Nat.not_lt_zero i))
  refine z_iconst (v := nI 0) (by decide) (pc' := 30) 16 rfl rfl ?_
  refine z_is2 rfl rfl (pc' := 31) 17 rfl rfl ?_
  exact l_Co_keptWind2 hi hm hg 37 0 _ _ _ (by omega) h (fun ψ2 => ⟨rfl, ψ2, rfl⟩)
theorem cK_of23 {μ : Nat → va_E} {κ : zκ} (h : cst μ κ) {ψ : Nat → Int32} {S : Nat → Nat → Nat} {mo cs : Nat} {pr fa q : Nat → Nat} {sc ch : Int32} {r : Int32} {rc : Nat} {D : zD6} (hr : rc = κ.2.2.2.2.2.2.1) (hD : D = κ.2.2.2.2.2.2.2) (hk : iK (S, mo, pr, fa, sc, ch, rc, D)) : cK μ (r, (S, mo, pr, fa, sc, ch, rc, D)) (some (.int r)) (pcc (zu μ 23 (.inl (0, 6, .inl ψ))) S sc ch mo cs pr fa q) := by
  obtain ⟨S0, mo0, pr0, fa0, sc0, ch0, rc0, D0⟩ := κ
  obtain ⟨h1, h2, ⟨β, its, h3, h3a, h3b⟩, -, h5⟩ := h
  subst hr; subst hD
  exact ⟨rfl, ⟨isCo_pcc, ⟨cs, q, isCr_pcc⟩, ⟨β, its, isBk_pcc (isBk_fr h3 (fun i a b => zu_n (by omega))), h3a, h3b⟩, ⟨ψ, by rw [pcc_o (by decide)]; exact zu_s⟩, hk⟩, fun i hi => by rw [pcc_o (by omega), zu_n (by omega)]⟩
set_option maxHeartbeats 4000000 in
set_option maxRecDepth 100000 in
theorem c_Wb_kept {G : zG} {n u : Nat} {μ : Nat → va_E} {κ : zκ} {kp : Int32} {ac : Value} (h : cst μ κ) (hob : isOb μ kp ac) (x : Int32) :
    zMet G 5 M_Wb_kept [.ref 4, .int x] n u μ n u (cK μ (f_kept κ x)) := by
  obtain ⟨S, mo, pr, fa, sc, ch, rc, D⟩ := κ
  have hst := h
  obtain ⟨h1, ⟨cs, q, h2⟩, ⟨β, its, h3, h3a, h3b⟩, ⟨c23, h4⟩, h5⟩ := h
  have hk5 := h5
  obtain ⟨hi, hx, hmo, hrc⟩ := h5
  have hi0 := hi.1
  have hi1 := hi.2.1
  have hi2 := hi.2.2.1
  have hi3 := hi.2.2.2.2.1
  have hm16 : mo ≤ 16 := by omega
  refine z_start (lv := [.ref 4, .int x]) K_Wb_kept rfl rfl (Nat.le_refl _) (Nat.le_refl _) (Nat.le_of_ble_eq_true rfl) rfl ?_
  unfold isOb at hob
  refine z_mu (show μ = pcc (zu μ 23 (.inl (0, 6, .inl c23))) S sc ch mo cs pr fa q by rw [zu_id h4, pcc_id h1 h2]) ?_
  refine z_al0 (pc' := 1) 0 rfl rfl ?_
  refine z_getf (pc' := 4) 1 rfl rfl f_Wb_10_11 (by first | exact pcc_5 | (rw [pcc_o (by decide), zu_n (by decide)]; assumption)) (by rfl) ?_
  refine z_il1 (pc' := 5) 2 rfl rfl ?_
  refine z_callV1 (pc' := 8) 3 rfl rfl k_Wb_84 (by first | exact pcc_5 | (rw [pcc_o (by decide), zu_n (by decide)]; assumption)) (c_Co_hasGirl isCo_pcc hi _) (by decide) (Nat.le_refl _) (Nat.le_refl _) rfl rfl (Nat.le_of_ble_eq_true rfl) ?_
  first | refine z_if_eqB (pc' := 11) 4 rfl rfl (tgt := 22) rfl (fun h8 => ?_) (fun h8 => ?_) | refine z_if_eqN (pc' := 11) 4 rfl rfl (tgt := 22) rfl (by omega) (fun h8 => ?_) (fun h8 => ?_) | refine z_if_eq (pc' := 11) 4 rfl rfl (tgt := 22) rfl (fun h8 => ?_) (fun h8 => ?_)
  · refine z_iconst (v := (-1)) (by decide) (pc' := 23) 10 rfl rfl ?_
    exact z_ireturn 11 rfl rfl (by first | rfl | exact zbo_nar) rfl rfl (by show cK μ _ _ _; rw [f_kept, if_neg h8]; exact cK_of23 hst rfl rfl hk5)
  · obtain ⟨g, hg, rfl⟩ := z_in h8 (by omega)
    refine z_al0 (pc' := 12) 5 rfl rfl ?_
    refine z_getf (pc' := 15) 6 rfl rfl f_Wb_10_11 (by first | exact pcc_5 | (rw [pcc_o (by decide), zu_n (by decide)]; assumption)) (by rfl) ?_
    refine z_il1 (pc' := 16) 7 rfl rfl ?_
    refine z_callVX1 (pc' := 19) 8 rfl rfl k_Wb_197 (by first | exact pcc_5 | (rw [pcc_o (by decide), zu_n (by decide)]; assumption)) (c_Co_keptWind hi hm16 hg) (by decide) (Nat.le_refl _) (Nat.le_refl _) rfl rfl (Nat.le_of_ble_eq_true rfl) (fun q16 => ?_)
    refine z_goto 9 rfl (tgt := 23) rfl ?_
    exact z_ireturn 11 rfl rfl (by first | rfl | exact zbo_nar) rfl rfl (by show cK μ _ _ _; rw [f_kept, if_pos h8, tN_n (by omega)]; exact cK_of23 hst rfl rfl hk5)
