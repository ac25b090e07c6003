/-! ===== the class splits the text ===== -/
theorem z_ldcS {G : zG} {d : Nat} {M : zM} {pc pc' : Nat} {lv st : List Value} {n u : Nat} {μ : Nat → va_E} {nF uF : Nat} {Φ : zP} (hO : mO M = "WindBrides$Tape") (k : Nat) (hd : (mI M)[k]? = some (pc, .ldc 68, 2)) (hp : pc + 2 = pc') (kk : zW G d M pc' lv (.ref 3 :: st) n u μ nF uF Φ) : zW G d M pc lv st n u μ nF uF Φ := by
  subst hp
  intro p e R s m args below meth c n0 u0 B h1 h2 H locs ls hR hl hlv
  obtain ⟨-, -, -, -, -, -, -, -, o9, -⟩ := zB_O B
  exact va_ldcS B.1 B.2.1 (by rw [← hO]; exact zB_own B) o9 (z_dec (zB_ok B) hd) (kk p e R s m args below meth c n0 u0 B h1 h2 H locs ls hR hl hlv)
theorem WD_b : ∀ j, j < 126 → WD j ≤ 122 := by decide +kernel
theorem fW_7 {b : Nat → Nat} {q n : Nat} (h : 7 ≤ n) : fW b q n 18 0 = 24 := by
  rcases fW_s (b := b) (q := q) (n := n) 18 0 (by omega) with ⟨w, -, h2, h3, -⟩ | ⟨-, h2⟩
  · have := (WD_2 w h2).2; have := h3.1; omega
  · exact h2
set_option maxHeartbeats 4000000 in
set_option maxRecDepth 100000 in
theorem c_Ta_isLetter {G : zG} {n u : Nat} {μ : Nat → va_E} {x : Nat} (hx : x ≤ 255) : zMet G 0 M_Ta_isLetter [.int (nI x)] n u μ n u (zE (some (.int (zbo (isL x)))) μ) := by
  refine z_start (lv := [.int (nI x)]) K_Ta_isLetter rfl rfl (Nat.le_refl _) (Nat.le_refl _) (Nat.le_of_ble_eq_true rfl) rfl ?_
  refine z_il0 (pc' := 1) 0 rfl rfl ?_
  refine z_bipush (v := nI 97) (by decide) (pc' := 3) 1 rfl rfl ?_
  first | refine z_icmp_ltN (pc' := 6) 2 rfl rfl (tgt := 16) rfl (by omega) (by omega) (fun h3 => ?_) (fun h3 => ?_) | refine z_icmp_lt (pc' := 6) 2 rfl rfl (tgt := 16) rfl (fun h3 => ?_) (fun h3 => ?_)
  · refine z_iconst (v := nI 0) (by decide) (pc' := 17) 8 rfl rfl ?_
    exact z_ireturn 9 rfl rfl (by first | rfl | exact zbo_nar) rfl rfl (by exact ⟨by rw [zbo_f (fun z => by omega)], rfl⟩)
  · refine z_il0 (pc' := 7) 3 rfl rfl ?_
    refine z_bipush (v := nI 122) (by decide) (pc' := 9) 4 rfl rfl ?_
    first | refine z_icmp_gtN (pc' := 12) 5 rfl rfl (tgt := 16) rfl (by omega) (by omega) (fun h9 => ?_) (fun h9 => ?_) | refine z_icmp_gt (pc' := 12) 5 rfl rfl (tgt := 16) rfl (fun h9 => ?_) (fun h9 => ?_)
    · refine z_iconst (v := nI 0) (by decide) (pc' := 17) 8 rfl rfl ?_
      exact z_ireturn 9 rfl rfl (by first | rfl | exact zbo_nar) rfl rfl (by exact ⟨by rw [zbo_f (fun z => by omega)], rfl⟩)
    · refine z_iconst (v := nI 1) (by decide) (pc' := 13) 6 rfl rfl ?_
      refine z_goto 7 rfl (tgt := 17) rfl ?_
      exact z_ireturn 9 rfl rfl (by first | rfl | exact zbo_nar) rfl rfl (by exact ⟨by rw [zbo_t (by omega)], rfl⟩)
set_option maxHeartbeats 4000000 in
set_option maxRecDepth 100000 in
theorem c_Ta_isDigit {G : zG} {n u : Nat} {μ : Nat → va_E} {x : Nat} (hx : x ≤ 255) : zMet G 0 M_Ta_isDigit [.int (nI x)] n u μ n u (zE (some (.int (zbo (isD x)))) μ) := by
  refine z_start (lv := [.int (nI x)]) K_Ta_isDigit rfl rfl (Nat.le_refl _) (Nat.le_refl _) (Nat.le_of_ble_eq_true rfl) rfl ?_
  refine z_il0 (pc' := 1) 0 rfl rfl ?_
  refine z_bipush (v := nI 48) (by decide) (pc' := 3) 1 rfl rfl ?_
  first | refine z_icmp_ltN (pc' := 6) 2 rfl rfl (tgt := 16) rfl (by omega) (by omega) (fun h3 => ?_) (fun h3 => ?_) | refine z_icmp_lt (pc' := 6) 2 rfl rfl (tgt := 16) rfl (fun h3 => ?_) (fun h3 => ?_)
  · refine z_iconst (v := nI 0) (by decide) (pc' := 17) 8 rfl rfl ?_
    exact z_ireturn 9 rfl rfl (by first | rfl | exact zbo_nar) rfl rfl (by exact ⟨by rw [zbo_f (fun z => by omega)], rfl⟩)
  · refine z_il0 (pc' := 7) 3 rfl rfl ?_
    refine z_bipush (v := nI 57) (by decide) (pc' := 9) 4 rfl rfl ?_
    first | refine z_icmp_gtN (pc' := 12) 5 rfl rfl (tgt := 16) rfl (by omega) (by omega) (fun h9 => ?_) (fun h9 => ?_) | refine z_icmp_gt (pc' := 12) 5 rfl rfl (tgt := 16) rfl (fun h9 => ?_) (fun h9 => ?_)
    · refine z_iconst (v := nI 0) (by decide) (pc' := 17) 8 rfl rfl ?_
      exact z_ireturn 9 rfl rfl (by first | rfl | exact zbo_nar) rfl rfl (by exact ⟨by rw [zbo_f (fun z => by omega)], rfl⟩)
    · refine z_iconst (v := nI 1) (by decide) (pc' := 13) 6 rfl rfl ?_
      refine z_goto 7 rfl (tgt := 17) rfl ?_
      exact z_ireturn 9 rfl rfl (by first | rfl | exact zbo_nar) rfl rfl (by exact ⟨by rw [zbo_t (by omega)], rfl⟩)
set_option maxHeartbeats 4000000 in
set_option maxRecDepth 100000 in
theorem c_Ta_goesOn {G : zG} {n u : Nat} {μ : Nat → va_E} {b : Nat → Nat} {ln at9 : Nat} (h47 : μ 47 = .inr (9, [.int (nI ln), .ref 48, .ref 49, .ref 50, .int (nI at9)])) (h48 : μ 48 = .inl (0, 200, .inl (fun i => nI (b i)))) (hb : ∀ i, b i ≤ 255) (hln : ln ≤ 200) {i : Nat} (hi : i < 200) : zMet G 1 M_Ta_goesOn [.ref 47, .int (nI i)] n u μ n u (zE (some (.int (zbo (gon b i)))) μ) := by
  refine z_start (lv := [.ref 47, .int (nI i)]) K_Ta_goesOn rfl rfl (Nat.le_refl _) (Nat.le_refl _) (Nat.le_of_ble_eq_true rfl) rfl ?_
  refine z_il1 (pc' := 1) 0 rfl rfl ?_
  first | refine z_if_neB (pc' := 4) 1 rfl rfl (tgt := 6) rfl (fun h1 => ?_) (fun h1 => ?_) | refine z_if_neN (pc' := 4) 1 rfl rfl (tgt := 6) rfl (by omega) (fun h1 => ?_) (fun h1 => ?_) | refine z_if_ne (pc' := 4) 1 rfl rfl (tgt := 6) rfl (fun h1 => ?_) (fun h1 => ?_)
  · have hi0 : i ≠ 0 := by omega
    refine z_al0 (pc' := 7) 4 rfl rfl ?_
    refine z_getf (pc' := 10) 5 rfl rfl f_Ta_11_9 (by assumption) (by rfl) ?_
    refine z_il1 (pc' := 11) 6 rfl rfl ?_
    refine z_iconst (v := nI 1) (by decide) (pc' := 12) 7 rfl rfl ?_
    first | refine z_isubN (by omega) (pc' := 13) 8 rfl rfl ?_ | refine z_isub (pc' := 13) 8 rfl rfl ?_
    refine z_iald (pc' := 14) 9 rfl rfl (by assumption) (by omega) (by decide) ?_
    refine z_callS1 (pc' := 17) 10 rfl rfl k_Ta_51 (c_Ta_isLetter (hb _)) (by decide) (Nat.le_refl _) (Nat.le_refl _) rfl rfl (Nat.le_of_ble_eq_true rfl) ?_
    first | refine z_if_eqB (pc' := 20) 11 rfl rfl (tgt := 32) rfl (fun h17 => ?_) (fun h17 => ?_) | refine z_if_eqN (pc' := 20) 11 rfl rfl (tgt := 32) rfl (by omega) (fun h17 => ?_) (fun h17 => ?_) | refine z_if_eq (pc' := 20) 11 rfl rfl (tgt := 32) rfl (fun h17 => ?_) (fun h17 => ?_)
    · refine z_al0 (pc' := 33) 18 rfl rfl ?_
      refine z_getf (pc' := 36) 19 rfl rfl f_Ta_11_9 (by assumption) (by rfl) ?_
      refine z_il1 (pc' := 37) 20 rfl rfl ?_
      refine z_iconst (v := nI 1) (by decide) (pc' := 38) 21 rfl rfl ?_
      first | refine z_isubN (by omega) (pc' := 39) 22 rfl rfl ?_ | refine z_isub (pc' := 39) 22 rfl rfl ?_
      refine z_iald (pc' := 40) 23 rfl rfl (by assumption) (by omega) (by decide) ?_
      refine z_callS1 (pc' := 43) 24 rfl rfl k_Ta_54 (c_Ta_isDigit (hb _)) (by decide) (Nat.le_refl _) (Nat.le_refl _) rfl rfl (Nat.le_of_ble_eq_true rfl) ?_
      first | refine z_if_eqB (pc' := 46) 25 rfl rfl (tgt := 62) rfl (fun h43 => ?_) (fun h43 => ?_) | refine z_if_eqN (pc' := 46) 25 rfl rfl (tgt := 62) rfl (by omega) (fun h43 => ?_) (fun h43 => ?_) | refine z_if_eq (pc' := 46) 25 rfl rfl (tgt := 62) rfl (fun h43 => ?_) (fun h43 => ?_)
      · refine z_iconst (v := nI 0) (by decide) (pc' := 63) 34 rfl rfl ?_
        exact z_ireturn 35 rfl rfl (by first | rfl | exact zbo_nar) rfl rfl (by exact ⟨by rw [zbo_f (fun z => z.2.elim (fun y => h17 y.1) (fun y => h43 y.1))], rfl⟩)
      · refine z_al0 (pc' := 47) 26 rfl rfl ?_
        refine z_getf (pc' := 50) 27 rfl rfl f_Ta_11_9 (by assumption) (by rfl) ?_
        refine z_il1 (pc' := 51) 28 rfl rfl ?_
        refine z_iald (pc' := 52) 29 rfl rfl (by assumption) (by omega) (by decide) ?_
        refine z_callS1 (pc' := 55) 30 rfl rfl k_Ta_54 (c_Ta_isDigit (hb _)) (by decide) (Nat.le_refl _) (Nat.le_refl _) rfl rfl (Nat.le_of_ble_eq_true rfl) ?_
        first | refine z_if_eqB (pc' := 58) 31 rfl rfl (tgt := 62) rfl (fun h55 => ?_) (fun h55 => ?_) | refine z_if_eqN (pc' := 58) 31 rfl rfl (tgt := 62) rfl (by omega) (fun h55 => ?_) (fun h55 => ?_) | refine z_if_eq (pc' := 58) 31 rfl rfl (tgt := 62) rfl (fun h55 => ?_) (fun h55 => ?_)
        · refine z_iconst (v := nI 0) (by decide) (pc' := 63) 34 rfl rfl ?_
          exact z_ireturn 35 rfl rfl (by first | rfl | exact zbo_nar) rfl rfl (by exact ⟨by rw [zbo_f (fun z => z.2.elim (fun y => h17 y.1) (fun y => h55 y.2))], rfl⟩)
        · refine z_iconst (v := nI 1) (by decide) (pc' := 59) 32 rfl rfl ?_
          refine z_goto 33 rfl (tgt := 63) rfl ?_
          exact z_ireturn 35 rfl rfl (by first | rfl | exact zbo_nar) rfl rfl (by exact ⟨by rw [zbo_t ⟨hi0, Or.inr ⟨h43, h55⟩⟩], rfl⟩)
    · refine z_al0 (pc' := 21) 12 rfl rfl ?_
      refine z_getf (pc' := 24) 13 rfl rfl f_Ta_11_9 (by assumption) (by rfl) ?_
      refine z_il1 (pc' := 25) 14 rfl rfl ?_
      refine z_iald (pc' := 26) 15 rfl rfl (by assumption) (by omega) (by decide) ?_
      refine z_callS1 (pc' := 29) 16 rfl rfl k_Ta_51 (c_Ta_isLetter (hb _)) (by decide) (Nat.le_refl _) (Nat.le_refl _) rfl rfl (Nat.le_of_ble_eq_true rfl) ?_
      first | refine z_if_neB (pc' := 32) 17 rfl rfl (tgt := 58) rfl (fun h29 => ?_) (fun h29 => ?_) | refine z_if_neN (pc' := 32) 17 rfl rfl (tgt := 58) rfl (by omega) (fun h29 => ?_) (fun h29 => ?_) | refine z_if_ne (pc' := 32) 17 rfl rfl (tgt := 58) rfl (fun h29 => ?_) (fun h29 => ?_)
      · refine z_iconst (v := nI 1) (by decide) (pc' := 59) 32 rfl rfl ?_
        refine z_goto 33 rfl (tgt := 63) rfl ?_
        exact z_ireturn 35 rfl rfl (by first | rfl | exact zbo_nar) rfl rfl (by exact ⟨by rw [zbo_t ⟨hi0, Or.inl ⟨h17, h29⟩⟩], rfl⟩)
      · refine z_al0 (pc' := 33) 18 rfl rfl ?_
        refine z_getf (pc' := 36) 19 rfl rfl f_Ta_11_9 (by assumption) (by rfl) ?_
        refine z_il1 (pc' := 37) 20 rfl rfl ?_
        refine z_iconst (v := nI 1) (by decide) (pc' := 38) 21 rfl rfl ?_
        first | refine z_isubN (by omega) (pc' := 39) 22 rfl rfl ?_ | refine z_isub (pc' := 39) 22 rfl rfl ?_
        refine z_iald (pc' := 40) 23 rfl rfl (by assumption) (by omega) (by decide) ?_
        refine z_callS1 (pc' := 43) 24 rfl rfl k_Ta_54 (c_Ta_isDigit (hb _)) (by decide) (Nat.le_refl _) (Nat.le_refl _) rfl rfl (Nat.le_of_ble_eq_true rfl) ?_
        first | refine z_if_eqB (pc' := 46) 25 rfl rfl (tgt := 62) rfl (fun h43 => ?_) (fun h43 => ?_) | refine z_if_eqN (pc' := 46) 25 rfl rfl (tgt := 62) rfl (by omega) (fun h43 => ?_) (fun h43 => ?_) | refine z_if_eq (pc' := 46) 25 rfl rfl (tgt := 62) rfl (fun h43 => ?_) (fun h43 => ?_)
        · refine z_iconst (v := nI 0) (by decide) (pc' := 63) 34 rfl rfl ?_
          exact z_ireturn 35 rfl rfl (by first | rfl | exact zbo_nar) rfl rfl (by exact ⟨by rw [zbo_f (fun z => z.2.elim (fun y => h29 y.2) (fun y => h43 y.1))], rfl⟩)
        · refine z_al0 (pc' := 47) 26 rfl rfl ?_
          refine z_getf (pc' := 50) 27 rfl rfl f_Ta_11_9 (by assumption) (by rfl) ?_
          refine z_il1 (pc' := 51) 28 rfl rfl ?_
          refine z_iald (pc' := 52) 29 rfl rfl (by assumption) (by omega) (by decide) ?_
          refine z_callS1 (pc' := 55) 30 rfl rfl k_Ta_54 (c_Ta_isDigit (hb _)) (by decide) (Nat.le_refl _) (Nat.le_refl _) rfl rfl (Nat.le_of_ble_eq_true rfl) ?_
          first | refine z_if_eqB (pc' := 58) 31 rfl rfl (tgt := 62) rfl (fun h55 => ?_) (fun h55 => ?_) | refine z_if_eqN (pc' := 58) 31 rfl rfl (tgt := 62) rfl (by omega) (fun h55 => ?_) (fun h55 => ?_) | refine z_if_eq (pc' := 58) 31 rfl rfl (tgt := 62) rfl (fun h55 => ?_) (fun h55 => ?_)
          · refine z_iconst (v := nI 0) (by decide) (pc' := 63) 34 rfl rfl ?_
            exact z_ireturn 35 rfl rfl (by first | rfl | exact zbo_nar) rfl rfl (by exact ⟨by rw [zbo_f (fun z => z.2.elim (fun y => h29 y.2) (fun y => h55 y.2))], rfl⟩)
          · refine z_iconst (v := nI 1) (by decide) (pc' := 59) 32 rfl rfl ?_
            refine z_goto 33 rfl (tgt := 63) rfl ?_
            exact z_ireturn 35 rfl rfl (by first | rfl | exact zbo_nar) rfl rfl (by exact ⟨by rw [zbo_t ⟨hi0, Or.inr ⟨h43, h55⟩⟩], rfl⟩)
  · have hi0 : i = 0 := by omega
    refine z_iconst (v := nI 0) (by decide) (pc' := 5) 2 rfl rfl ?_
    exact z_ireturn 3 rfl rfl (by first | rfl | exact zbo_nar) rfl rfl (by exact ⟨by rw [zbo_f (fun z => z.1 hi0)], rfl⟩)
set_option maxHeartbeats 4000000 in
set_option maxRecDepth 100000 in
theorem l_Ta_isWord {G : zG} {n u : Nat} {μ : Nat → va_E} {b : Nat → Nat} {ln at9 : Nat} (h47 : μ 47 = .inr (9, [.int (nI ln), .ref 48, .ref 49, .ref 50, .int (nI at9)])) (h48 : μ 48 = .inl (0, 200, .inl (fun i => nI (b i)))) (hb : ∀ i, b i ≤ 255) (hln : ln ≤ 200) {q w z : Nat} (hq : q + z ≤ 200) (hw : w < 18) (hz : z < 7) : ∀ r k, k + r = z → zW G 4 M_Ta_isWord 3 [.ref 47, .int (nI w), .int (nI q), .int (nI z), .int (nI k)] [] n u μ n u (zE (some (.int (zbo (mmB b (fun i => WD (7 * w + i)) q r k = true ∧ WD (7 * w + z) = 32)))) μ)
  | 0, k, e => by
    have hWz := WD_b (7 * w + z) (by omega)
    have ew : w * 7 = 7 * w := Nat.mul_comm _ _
    refine z_il4 (pc' := 5) 2 rfl rfl ?_
    refine z_il3 (pc' := 6) 3 rfl rfl ?_
    first | refine z_icmp_geN (pc' := 9) 4 rfl rfl (tgt := 41) rfl (by omega) (by omega) (fun h6 => ?_) (fun h6 => ?_) | refine z_icmp_ge (pc' := 9) 4 rfl rfl (tgt := 41) rfl (fun h6 => ?_) (fun h6 => ?_)
    · refine z_ldcS rfl (pc' := 43) 23 rfl rfl ?_
      refine z_il1 (pc' := 44) 24 rfl rfl ?_
      refine z_bipush (v := nI 7) (by decide) (pc' := 46) 25 rfl rfl ?_
      first | refine z_imulN (pc' := 47) 26 rfl rfl ?_ | refine z_imul (pc' := 47) 26 rfl rfl ?_
      rw [ew]
      refine z_il3 (pc' := 48) 27 rfl rfl ?_
      first | refine z_iaddN (pc' := 49) 28 rfl rfl ?_ | refine z_iadd (pc' := 49) 28 rfl rfl ?_
      refine z_callJ (pc' := 52) 29 rfl rfl k_Ta_70 (c_Js_charAt (by omega)) (by decide) (Nat.le_refl _) (Nat.le_refl _) rfl rfl (Nat.le_of_ble_eq_true rfl) ?_
      dsimp only [Option.toList_some, List.cons_append, List.nil_append]
      refine z_bipush (v := nI 32) (by decide) (pc' := 54) 30 rfl rfl ?_
      first | refine z_icmp_neN (pc' := 57) 31 rfl rfl (tgt := 61) rfl (by omega) (by omega) (fun h54 => ?_) (fun h54 => ?_) | refine z_icmp_ne (pc' := 57) 31 rfl rfl (tgt := 61) rfl (fun h54 => ?_) (fun h54 => ?_)
      · refine z_iconst (v := nI 0) (by decide) (pc' := 62) 34 rfl rfl ?_
        exact z_ireturn 35 rfl rfl (by first | rfl | exact zbo_nar) rfl rfl (by exact ⟨by rw [zbo_f (fun y => h54 y.2)], rfl⟩)
      · refine z_iconst (v := nI 1) (by decide) (pc' := 58) 32 rfl rfl ?_
        refine z_goto 33 rfl (tgt := 62) rfl ?_
        exact z_ireturn 35 rfl rfl (by first | rfl | exact zbo_nar) rfl rfl (by exact ⟨by rw [zbo_t ⟨rfl, h54⟩], rfl⟩)
    · exfalso; omega
  | r + 1, k, e => by
    have hbk := hb (q + k)
    have hWk := WD_b (7 * w + k) (by omega)
    have ew : w * 7 = 7 * w := Nat.mul_comm _ _
    refine z_il4 (pc' := 5) 2 rfl rfl ?_
    refine z_il3 (pc' := 6) 3 rfl rfl ?_
    first | refine z_icmp_geN (pc' := 9) 4 rfl rfl (tgt := 41) rfl (by omega) (by omega) (fun h6 => ?_) (fun h6 => ?_) | refine z_icmp_ge (pc' := 9) 4 rfl rfl (tgt := 41) rfl (fun h6 => ?_) (fun h6 => ?_)
    · exfalso; omega
    · refine z_al0 (pc' := 10) 5 rfl rfl ?_
      refine z_getf (pc' := 13) 6 rfl rfl f_Ta_11_9 (by assumption) (by rfl) ?_
      refine z_il2 (pc' := 14) 7 rfl rfl ?_
      refine z_il4 (pc' := 16) 8 rfl rfl ?_
      first | refine z_iaddN (pc' := 17) 9 rfl rfl ?_ | refine z_iadd (pc' := 17) 9 rfl rfl ?_
      refine z_iald (pc' := 18) 10 rfl rfl (by assumption) (by omega) (by decide) ?_
      refine z_ldcS rfl (pc' := 20) 11 rfl rfl ?_
      refine z_il1 (pc' := 21) 12 rfl rfl ?_
      refine z_bipush (v := nI 7) (by decide) (pc' := 23) 13 rfl rfl ?_
      first | refine z_imulN (pc' := 24) 14 rfl rfl ?_ | refine z_imul (pc' := 24) 14 rfl rfl ?_
      rw [ew]
      refine z_il4 (pc' := 26) 15 rfl rfl ?_
      first | refine z_iaddN (pc' := 27) 16 rfl rfl ?_ | refine z_iadd (pc' := 27) 16 rfl rfl ?_
      refine z_callJ (pc' := 30) 17 rfl rfl k_Ta_70 (c_Js_charAt (by omega)) (by decide) (Nat.le_refl _) (Nat.le_refl _) rfl rfl (Nat.le_of_ble_eq_true rfl) ?_
      dsimp only [Option.toList_some, List.cons_append, List.nil_append]
      first | refine z_icmp_eqN (pc' := 33) 18 rfl rfl (tgt := 35) rfl (by omega) (by omega) (fun h30 => ?_) (fun h30 => ?_) | refine z_icmp_eq (pc' := 33) 18 rfl rfl (tgt := 35) rfl (fun h30 => ?_) (fun h30 => ?_)
      · first | refine z_inc4N rfl rfl (pc' := 38) 21 rfl rfl ?_ | refine z_inc4 rfl rfl rfl (pc' := 38) 21 rfl rfl ?_
        refine z_goto 22 rfl (tgt := 3) rfl ?_
        refine zW_to (l_Ta_isWord h47 h48 hb hln hq hw hz r (k + 1) (by omega)) ⟨?_, rfl⟩
        rw [mmB_s, decide_eq_true h30, Bool.true_and]
      · refine z_iconst (v := nI 0) (by decide) (pc' := 34) 19 rfl rfl ?_
        exact z_ireturn 20 rfl rfl (by first | rfl | exact zbo_nar) rfl rfl (by exact ⟨by rw [zbo_f (fun y => by rw [mmB_s, decide_eq_false h30, Bool.false_and] at y; exact Bool.false_ne_true y.1)], rfl⟩)
set_option maxHeartbeats 4000000 in
set_option maxRecDepth 100000 in
theorem c_Ta_isWord {G : zG} {n u : Nat} {μ : Nat → va_E} {b : Nat → Nat} {ln at9 : Nat} (h47 : μ 47 = .inr (9, [.int (nI ln), .ref 48, .ref 49, .ref 50, .int (nI at9)])) (h48 : μ 48 = .inl (0, 200, .inl (fun i => nI (b i)))) (hb : ∀ i, b i ≤ 255) (hln : ln ≤ 200) {q w z : Nat} (hq : q + z ≤ 200) (hw : w < 18) (hz : z < 7) (hL : ∀ i, i < z → isL (b (q + i))) : zMet G 4 M_Ta_isWord [.ref 47, .int (nI w), .int (nI q), .int (nI z)] n u μ n u (zE (some (.int (zbo (mWd b q z w)))) μ) := by
  refine z_start (lv := [.ref 47, .int (nI w), .int (nI q), .int (nI z), .retAddr 0]) K_Ta_isWord rfl rfl (Nat.le_refl _) (Nat.le_refl _) (Nat.le_of_ble_eq_true rfl) rfl ?_
  refine z_iconst (v := nI 0) (by decide) (pc' := 1) 0 rfl rfl ?_
  refine z_is4 rfl rfl (pc' := 3) 1 rfl rfl ?_
  refine zW_to (l_Ta_isWord h47 h48 hb hln hq hw hz z 0 (by omega)) ⟨?_, rfl⟩
  refine congrArg (fun x => some (Value.int x)) (zbo_c ?_)
  rw [mmB_t]
  exact ⟨fun y => ⟨WD_1 w hw z hz (fun i hi => by rw [← y.1 i (by omega) (by omega)]; exact hL i hi) y.2, fun i hi => y.1 i (by omega) (by omega)⟩, fun y => ⟨fun i _ hi => y.2 i (by omega), by rw [y.1]; exact (WD_2 w hw).1⟩⟩
set_option maxHeartbeats 4000000 in
set_option maxRecDepth 100000 in
theorem l_Ta_wordOf {G : zG} {n u : Nat} {μ : Nat → va_E} {b : Nat → Nat} {ln at9 : Nat} (h47 : μ 47 = .inr (9, [.int (nI ln), .ref 48, .ref 49, .ref 50, .int (nI at9)])) (h48 : μ 48 = .inl (0, 200, .inl (fun i => nI (b i)))) (hb : ∀ i, b i ≤ 255) (hln : ln ≤ 200) {q z : Nat} (hq : q + z ≤ 200) (hL : ∀ i, i < z → isL (b (q + i))) : ∀ r w, w + r = 18 → (7 ≤ z → fW b q z r w = 24) → zW G 5 M_Ta_wordOf 2 [.ref 47, .int (nI q), .int (nI z), .int (nI w)] [] n u μ n u (zE (some (.int (nI (fW b q z r w)))) μ)
  | 0, w, e, h7 => by
    have e18 : w = 18 := by omega
    subst e18
    refine z_il3 (pc' := 3) 2 rfl rfl ?_
    refine z_bipush (v := nI 18) (by decide) (pc' := 5) 3 rfl rfl ?_
    refine z_icmp_ge_t 4 rfl (tgt := 32) rfl (by decide) ?_
    refine z_bipush (v := nI 24) (by decide) (pc' := 34) 18 rfl rfl ?_
    exact z_ireturn 19 rfl rfl (by first | rfl | exact zbo_nar) rfl rfl (by exact ⟨rfl, rfl⟩)
  | r + 1, w, e, h7 => by
    refine z_il3 (pc' := 3) 2 rfl rfl ?_
    refine z_bipush (v := nI 18) (by decide) (pc' := 5) 3 rfl rfl ?_
    first | refine z_icmp_geN (pc' := 8) 4 rfl rfl (tgt := 32) rfl (by omega) (by omega) (fun h5 => ?_) (fun h5 => ?_) | refine z_icmp_ge (pc' := 8) 4 rfl rfl (tgt := 32) rfl (fun h5 => ?_) (fun h5 => ?_)
    · exfalso; omega
    · refine z_il2 (pc' := 9) 5 rfl rfl ?_
      refine z_bipush (v := nI 7) (by decide) (pc' := 11) 6 rfl rfl ?_
      first | refine z_icmp_geN (pc' := 14) 7 rfl rfl (tgt := 32) rfl (by omega) (by omega) (fun h11 => ?_) (fun h11 => ?_) | refine z_icmp_ge (pc' := 14) 7 rfl rfl (tgt := 32) rfl (fun h11 => ?_) (fun h11 => ?_)
      · refine z_bipush (v := nI 24) (by decide) (pc' := 34) 18 rfl rfl ?_
        exact z_ireturn 19 rfl rfl (by first | rfl | exact zbo_nar) rfl rfl (by exact ⟨by rw [h7 h11], rfl⟩)
      · refine z_al0 (pc' := 15) 8 rfl rfl ?_
        refine z_il3 (pc' := 16) 9 rfl rfl ?_
        refine z_il1 (pc' := 17) 10 rfl rfl ?_
        refine z_il2 (pc' := 18) 11 rfl rfl ?_
        refine z_callV1 (pc' := 21) 12 rfl rfl k_Ta_64 (by assumption) (c_Ta_isWord h47 h48 hb hln hq (by omega) (by omega) hL) (by decide) (Nat.le_refl _) (Nat.le_refl _) rfl rfl (Nat.le_of_ble_eq_true rfl) ?_
        first | refine z_if_eqB (pc' := 24) 13 rfl rfl (tgt := 26) rfl (fun h21 => ?_) (fun h21 => ?_) | refine z_if_eqN (pc' := 24) 13 rfl rfl (tgt := 26) rfl (by omega) (fun h21 => ?_) (fun h21 => ?_) | refine z_if_eq (pc' := 24) 13 rfl rfl (tgt := 26) rfl (fun h21 => ?_) (fun h21 => ?_)
        · first | refine z_inc3N rfl rfl (pc' := 29) 16 rfl rfl ?_ | refine z_inc3 rfl rfl rfl (pc' := 29) 16 rfl rfl ?_
          refine z_goto 17 rfl (tgt := 2) rfl ?_
          rw [show fW b q z (r + 1) w = fW b q z r (w + 1) from if_neg h21] at h7 ⊢
          exact l_Ta_wordOf h47 h48 hb hln hq hL r (w + 1) (by omega) h7
        · refine z_il3 (pc' := 25) 14 rfl rfl ?_
          exact z_ireturn 15 rfl rfl (by first | rfl | exact zbo_nar) rfl rfl (by exact ⟨by rw [show fW b q z (r + 1) w = w from if_pos h21], rfl⟩)
set_option maxHeartbeats 4000000 in
set_option maxRecDepth 100000 in
theorem c_Ta_wordOf {G : zG} {n u : Nat} {μ : Nat → va_E} {b : Nat → Nat} {ln at9 : Nat} (h47 : μ 47 = .inr (9, [.int (nI ln), .ref 48, .ref 49, .ref 50, .int (nI at9)])) (h48 : μ 48 = .inl (0, 200, .inl (fun i => nI (b i)))) (hb : ∀ i, b i ≤ 255) (hln : ln ≤ 200) {q z : Nat} (hq : q + z ≤ 200) (hL : ∀ i, i < z → isL (b (q + i))) : zMet G 5 M_Ta_wordOf [.ref 47, .int (nI q), .int (nI z)] n u μ n u (zE (some (.int (nI (fW b q z 18 0)))) μ) := by
  refine z_start (lv := [.ref 47, .int (nI q), .int (nI z), .retAddr 0]) K_Ta_wordOf rfl rfl (Nat.le_refl _) (Nat.le_refl _) (Nat.le_of_ble_eq_true rfl) rfl ?_
  refine z_iconst (v := nI 0) (by decide) (pc' := 1) 0 rfl rfl ?_
  refine z_is3 rfl rfl (pc' := 2) 1 rfl rfl ?_
  exact l_Ta_wordOf h47 h48 hb hln hq hL 18 0 rfl fW_7
set_option maxHeartbeats 4000000 in
set_option maxRecDepth 100000 in
theorem l_Ta_numberOf {G : zG} {n u : Nat} {μ : Nat → va_E} {b : Nat → Nat} {ln at9 : Nat} (h47 : μ 47 = .inr (9, [.int (nI ln), .ref 48, .ref 49, .ref 50, .int (nI at9)])) (h48 : μ 48 = .inl (0, 200, .inl (fun i => nI (b i)))) (hb : ∀ i, b i ≤ 255) (hln : ln ≤ 200) {q e9 : Nat} (he : e9 ≤ 200) (hD : ∀ i, q + i < e9 → isD (b (q + i))) : ∀ r p, p + r = e9 → q ≤ p → zW G 0 M_Ta_numberOf 15 [.ref 47, .int (nI q), .int (nI e9), .int (nI (nuF b q (p - q))), .int (nI p)] [] n u μ n u (zE (some (.int (nI (100 + nuF b q (e9 - q))))) μ)
  | 0, p, e, hp => by
    refine z_il4 (pc' := 17) 11 rfl rfl ?_
    refine z_il2 (pc' := 18) 12 rfl rfl ?_
    first | refine z_icmp_geN (pc' := 21) 13 rfl rfl (tgt := 43) rfl (by omega) (by omega) (fun h18 => ?_) (fun h18 => ?_) | refine z_icmp_ge (pc' := 21) 13 rfl rfl (tgt := 43) rfl (fun h18 => ?_) (fun h18 => ?_)
    · refine z_bipush (v := nI 100) (by decide) (pc' := 45) 27 rfl rfl ?_
      refine z_il3 (pc' := 46) 28 rfl rfl ?_
      first | refine z_iaddN (pc' := 47) 29 rfl rfl ?_ | refine z_iadd (pc' := 47) 29 rfl rfl ?_
      exact z_ireturn 30 rfl rfl (by first | rfl | exact zbo_nar) rfl rfl (by exact ⟨by rw [show e9 = p by omega], rfl⟩)
    · exfalso; omega
  | r + 1, p, e, hp => by
    have hDp := hD (p - q) (by omega)
    rw [show q + (p - q) = p by omega] at hDp
    refine z_il4 (pc' := 17) 11 rfl rfl ?_
    refine z_il2 (pc' := 18) 12 rfl rfl ?_
    first | refine z_icmp_geN (pc' := 21) 13 rfl rfl (tgt := 43) rfl (by omega) (by omega) (fun h18 => ?_) (fun h18 => ?_) | refine z_icmp_ge (pc' := 21) 13 rfl rfl (tgt := 43) rfl (fun h18 => ?_) (fun h18 => ?_)
    · exfalso; omega
    · refine z_bipush (v := nI 10) (by decide) (pc' := 23) 14 rfl rfl ?_
      refine z_il3 (pc' := 24) 15 rfl rfl ?_
      first | refine z_imulN (pc' := 25) 16 rfl rfl ?_ | refine z_imul (pc' := 25) 16 rfl rfl ?_
      refine z_al0 (pc' := 26) 17 rfl rfl ?_
      refine z_getf (pc' := 29) 18 rfl rfl f_Ta_11_9 (by assumption) (by rfl) ?_
      refine z_il4 (pc' := 31) 19 rfl rfl ?_
      refine z_iald (pc' := 32) 20 rfl rfl (by assumption) (by omega) (by decide) ?_
      first | refine z_iaddN (pc' := 33) 21 rfl rfl ?_ | refine z_iadd (pc' := 33) 21 rfl rfl ?_
      refine z_bipush (v := nI 48) (by decide) (pc' := 35) 22 rfl rfl ?_
      first | refine z_isubN (by omega) (pc' := 36) 23 rfl rfl ?_ | refine z_isub (pc' := 36) 23 rfl rfl ?_
      refine z_is3 rfl rfl (pc' := 37) 24 rfl rfl ?_
      first | refine z_inc4N rfl rfl (pc' := 40) 25 rfl rfl ?_ | refine z_inc4 rfl rfl rfl (pc' := 40) 25 rfl rfl ?_
      refine z_goto 26 rfl (tgt := 15) rfl ?_
      rw [show 10 * nuF b q (p - q) + b p - 48 = nuF b q (p + 1 - q) by rw [show p + 1 - q = (p - q) + 1 by omega]; show _ = 10 * nuF b q (p - q) + (b (q + (p - q)) - 48); rw [show q + (p - q) = p by omega]; omega]
      exact l_Ta_numberOf h47 h48 hb hln he hD r (p + 1) (by omega) (by omega)
set_option maxHeartbeats 4000000 in
set_option maxRecDepth 100000 in
theorem c_Ta_numberOf {G : zG} {n u : Nat} {μ : Nat → va_E} {b : Nat → Nat} {ln at9 : Nat} (h47 : μ 47 = .inr (9, [.int (nI ln), .ref 48, .ref 49, .ref 50, .int (nI at9)])) (h48 : μ 48 = .inl (0, 200, .inl (fun i => nI (b i)))) (hb : ∀ i, b i ≤ 255) (hln : ln ≤ 200) {q e9 : Nat} (hq : q ≤ e9) (he : e9 ≤ 200) (hD : ∀ i, q + i < e9 → isD (b (q + i))) : zMet G 0 M_Ta_numberOf [.ref 47, .int (nI q), .int (nI e9)] n u μ n u (zE (some (.int (nI (if 4 < e9 - q then 24 else 100 + nuF b q (e9 - q))))) μ) := by
  refine z_start (lv := [.ref 47, .int (nI q), .int (nI e9), .retAddr 0, .retAddr 0]) K_Ta_numberOf rfl rfl (Nat.le_refl _) (Nat.le_refl _) (Nat.le_of_ble_eq_true rfl) rfl ?_
  refine z_il2 (pc' := 1) 0 rfl rfl ?_
  refine z_il1 (pc' := 2) 1 rfl rfl ?_
  first | refine z_isubN (by omega) (pc' := 3) 2 rfl rfl ?_ | refine z_isub (pc' := 3) 2 rfl rfl ?_
  refine z_iconst (v := nI 4) (by decide) (pc' := 4) 3 rfl rfl ?_
  first | refine z_icmp_leN (pc' := 7) 4 rfl rfl (tgt := 10) rfl (by omega) (by omega) (fun h4 => ?_) (fun h4 => ?_) | refine z_icmp_le (pc' := 7) 4 rfl rfl (tgt := 10) rfl (fun h4 => ?_) (fun h4 => ?_)
  · refine z_iconst (v := nI 0) (by decide) (pc' := 11) 7 rfl rfl ?_
    refine z_is3 rfl rfl (pc' := 12) 8 rfl rfl ?_
    refine z_il1 (pc' := 13) 9 rfl rfl ?_
    refine z_is4 rfl rfl (pc' := 15) 10 rfl rfl ?_
    rw [if_neg (by omega)]
    have K9 := l_Ta_numberOf (G := G) (n := n) (u := u) h47 h48 hb hln he hD _ q (show q + (e9 - q) = e9 by omega) (Nat.le_refl _)
    rw [Nat.sub_self] at K9
    exact K9
  · refine z_bipush (v := nI 24) (by decide) (pc' := 9) 5 rfl rfl ?_
    exact z_ireturn 6 rfl rfl (by first | rfl | exact zbo_nar) rfl rfl (by exact ⟨by rw [if_pos (by omega)], rfl⟩)
set_option maxHeartbeats 4000000 in
set_option maxRecDepth 100000 in
theorem l_Ta_tokenOf {G : zG} {n u : Nat} {Φ : zP} {μ : Nat → va_E} {b : Nat → Nat} {ln at9 : Nat} (h47 : μ 47 = .inr (9, [.int (nI ln), .ref 48, .ref 49, .ref 50, .int (nI at9)])) (h48 : μ 48 = .inl (0, 200, .inl (fun i => nI (b i)))) (hb : ∀ i, b i ≤ 255) (hln : ln ≤ 200) {q : Nat} : ∀ k p, p + k = ln → (zW G 6 M_Ta_tokenOf 26 [.ref 47, .int (nI q), .int (nI (nd b k p))] [] n u μ n u Φ) → zW G 6 M_Ta_tokenOf 4 [.ref 47, .int (nI q), .int (nI p)] [] n u μ n u Φ
  | 0, p, e, K => by
    refine z_il2 (pc' := 5) 4 rfl rfl ?_
    refine z_al0 (pc' := 6) 5 rfl rfl ?_
    refine z_getf (pc' := 9) 6 rfl rfl f_Ta_21_9 (by assumption) (by rfl) ?_
    first | refine z_icmp_geN (pc' := 12) 7 rfl rfl (tgt := 26) rfl (by omega) (by omega) (fun h9 => ?_) (fun h9 => ?_) | refine z_icmp_ge (pc' := 12) 7 rfl rfl (tgt := 26) rfl (fun h9 => ?_) (fun h9 => ?_)
    · exact K
    · exfalso; omega
  | k + 1, p, e, K => by
    refine z_il2 (pc' := 5) 4 rfl rfl ?_
    refine z_al0 (pc' := 6) 5 rfl rfl ?_
    refine z_getf (pc' := 9) 6 rfl rfl f_Ta_21_9 (by assumption) (by rfl) ?_
    first | refine z_icmp_geN (pc' := 12) 7 rfl rfl (tgt := 26) rfl (by omega) (by omega) (fun h9 => ?_) (fun h9 => ?_) | refine z_icmp_ge (pc' := 12) 7 rfl rfl (tgt := 26) rfl (fun h9 => ?_) (fun h9 => ?_)
    · exfalso; omega
    · refine z_al0 (pc' := 13) 8 rfl rfl ?_
      refine z_il2 (pc' := 14) 9 rfl rfl ?_
      refine z_callV1 (pc' := 17) 10 rfl rfl k_Ta_43 (by assumption) (c_Ta_goesOn h47 h48 hb hln (by omega)) (by decide) (Nat.le_refl _) (Nat.le_refl _) rfl rfl (Nat.le_of_ble_eq_true rfl) ?_
      first | refine z_if_eqB (pc' := 20) 11 rfl rfl (tgt := 26) rfl (fun h17 => ?_) (fun h17 => ?_) | refine z_if_eqN (pc' := 20) 11 rfl rfl (tgt := 26) rfl (by omega) (fun h17 => ?_) (fun h17 => ?_) | refine z_if_eq (pc' := 20) 11 rfl rfl (tgt := 26) rfl (fun h17 => ?_) (fun h17 => ?_)
      · rw [show nd b (k + 1) p = p from if_neg h17] at K
        exact K
      · first | refine z_inc2N rfl rfl (pc' := 23) 12 rfl rfl ?_ | refine z_inc2 rfl rfl rfl (pc' := 23) 12 rfl rfl ?_
        refine z_goto 13 rfl (tgt := 4) rfl ?_
        rw [show nd b (k + 1) p = nd b k (p + 1) from if_pos h17] at K
        exact l_Ta_tokenOf h47 h48 hb hln k (p + 1) (by omega) K
set_option maxHeartbeats 4000000 in
set_option maxRecDepth 100000 in
theorem c_Ta_tokenOf {G : zG} {n u : Nat} {μ : Nat → va_E} {b : Nat → Nat} {ln at9 : Nat} (h47 : μ 47 = .inr (9, [.int (nI ln), .ref 48, .ref 49, .ref 50, .int (nI at9)])) (h48 : μ 48 = .inl (0, 200, .inl (fun i => nI (b i)))) (hb : ∀ i, b i ≤ 255) (hln : ln ≤ 200) {q : Nat} (hq : q < ln) : zMet G 6 M_Ta_tokenOf [.ref 47, .int (nI q)] n u μ n u (zE (some (.int (nI (tkF b ln q)))) μ) := by
  have hbq := hb q
  obtain ⟨hen1, hen2⟩ := enF_b (b := b) hq
  refine z_start (lv := [.ref 47, .int (nI q), .retAddr 0]) K_Ta_tokenOf rfl rfl (Nat.le_refl _) (Nat.le_refl _) (Nat.le_of_ble_eq_true rfl) rfl ?_
  refine z_il1 (pc' := 1) 0 rfl rfl ?_
  refine z_iconst (v := nI 1) (by decide) (pc' := 2) 1 rfl rfl ?_
  first | refine z_iaddN (pc' := 3) 2 rfl rfl ?_ | refine z_iadd (pc' := 3) 2 rfl rfl ?_
  refine z_is2 rfl rfl (pc' := 4) 3 rfl rfl ?_
  refine l_Ta_tokenOf h47 h48 hb hln (ln - (q + 1)) (q + 1) (by omega) ?_
  rw [show nd b (ln - (q + 1)) (q + 1) = enF b ln q from rfl]
  refine z_al0 (pc' := 27) 14 rfl rfl ?_
  refine z_getf (pc' := 30) 15 rfl rfl f_Ta_11_9 (by assumption) (by rfl) ?_
  refine z_il1 (pc' := 31) 16 rfl rfl ?_
  refine z_iald (pc' := 32) 17 rfl rfl (by assumption) (by omega) (by decide) ?_
  refine z_callS1 (pc' := 35) 18 rfl rfl k_Ta_51 (c_Ta_isLetter (hb _)) (by decide) (Nat.le_refl _) (Nat.le_refl _) rfl rfl (Nat.le_of_ble_eq_true rfl) ?_
  first | refine z_if_eqB (pc' := 38) 19 rfl rfl (tgt := 47) rfl (fun h35 => ?_) (fun h35 => ?_) | refine z_if_eqN (pc' := 38) 19 rfl rfl (tgt := 47) rfl (by omega) (fun h35 => ?_) (fun h35 => ?_) | refine z_if_eq (pc' := 38) 19 rfl rfl (tgt := 47) rfl (fun h35 => ?_) (fun h35 => ?_)
  · refine z_al0 (pc' := 48) 27 rfl rfl ?_
    refine z_getf (pc' := 51) 28 rfl rfl f_Ta_11_9 (by assumption) (by rfl) ?_
    refine z_il1 (pc' := 52) 29 rfl rfl ?_
    refine z_iald (pc' := 53) 30 rfl rfl (by assumption) (by omega) (by decide) ?_
    refine z_callS1 (pc' := 56) 31 rfl rfl k_Ta_54 (c_Ta_isDigit (hb _)) (by decide) (Nat.le_refl _) (Nat.le_refl _) rfl rfl (Nat.le_of_ble_eq_true rfl) ?_
    first | refine z_if_eqB (pc' := 59) 32 rfl rfl (tgt := 66) rfl (fun h56 => ?_) (fun h56 => ?_) | refine z_if_eqN (pc' := 59) 32 rfl rfl (tgt := 66) rfl (by omega) (fun h56 => ?_) (fun h56 => ?_) | refine z_if_eq (pc' := 59) 32 rfl rfl (tgt := 66) rfl (fun h56 => ?_) (fun h56 => ?_)
    · refine z_al0 (pc' := 67) 38 rfl rfl ?_
      refine z_getf (pc' := 70) 39 rfl rfl f_Ta_11_9 (by assumption) (by rfl) ?_
      refine z_il1 (pc' := 71) 40 rfl rfl ?_
      refine z_iald (pc' := 72) 41 rfl rfl (by assumption) (by omega) (by decide) ?_
      refine z_sw 40 (fun h72_40 => ?_) (fun h72_40 => ?_)
      · refine z_lookup 42 rfl (by decide) (off := 63) (by decide) (tgt := 135) rfl ?_
        refine z_bipush (v := nI 19) (by decide) (pc' := 137) 45 rfl rfl ?_
        exact z_ireturn 46 rfl rfl (by first | rfl | exact zbo_nar) rfl rfl (by have e : b q = 40 := (nI_eq (by omega) (by decide)).mp h72_40; exact ⟨by rw [tkF, if_neg h35, if_neg h56, e]; rfl, rfl⟩)
      refine z_sw 41 (fun h72_41 => ?_) (fun h72_41 => ?_)
      · refine z_lookup 42 rfl (by decide) (off := 66) (by decide) (tgt := 138) rfl ?_
        refine z_bipush (v := nI 20) (by decide) (pc' := 140) 47 rfl rfl ?_
        exact z_ireturn 48 rfl rfl (by first | rfl | exact zbo_nar) rfl rfl (by have e : b q = 41 := (nI_eq (by omega) (by decide)).mp h72_41; exact ⟨by rw [tkF, if_neg h35, if_neg h56, e]; rfl, rfl⟩)
      refine z_sw 59 (fun h72_59 => ?_) (fun h72_59 => ?_)
      · refine z_lookup 42 rfl (by decide) (off := 60) (by decide) (tgt := 132) rfl ?_
        refine z_bipush (v := nI 18) (by decide) (pc' := 134) 43 rfl rfl ?_
        exact z_ireturn 44 rfl rfl (by first | rfl | exact zbo_nar) rfl rfl (by have e : b q = 59 := (nI_eq (by omega) (by decide)).mp h72_59; exact ⟨by rw [tkF, if_neg h35, if_neg h56, e]; rfl, rfl⟩)
      refine z_sw 60 (fun h72_60 => ?_) (fun h72_60 => ?_)
      · refine z_lookup 42 rfl (by decide) (off := 69) (by decide) (tgt := 141) rfl ?_
        refine z_bipush (v := nI 21) (by decide) (pc' := 143) 49 rfl rfl ?_
        exact z_ireturn 50 rfl rfl (by first | rfl | exact zbo_nar) rfl rfl (by have e : b q = 60 := (nI_eq (by omega) (by decide)).mp h72_60; exact ⟨by rw [tkF, if_neg h35, if_neg h56, e]; rfl, rfl⟩)
      refine z_sw 61 (fun h72_61 => ?_) (fun h72_61 => ?_)
      · refine z_lookup 42 rfl (by decide) (off := 72) (by decide) (tgt := 144) rfl ?_
        refine z_bipush (v := nI 22) (by decide) (pc' := 146) 51 rfl rfl ?_
        exact z_ireturn 52 rfl rfl (by first | rfl | exact zbo_nar) rfl rfl (by have e : b q = 61 := (nI_eq (by omega) (by decide)).mp h72_61; exact ⟨by rw [tkF, if_neg h35, if_neg h56, e]; rfl, rfl⟩)
      refine z_sw 62 (fun h72_62 => ?_) (fun h72_62 => ?_)
      · refine z_lookup 42 rfl (by decide) (off := 75) (by decide) (tgt := 147) rfl ?_
        refine z_bipush (v := nI 23) (by decide) (pc' := 149) 53 rfl rfl ?_
        exact z_ireturn 54 rfl rfl (by first | rfl | exact zbo_nar) rfl rfl (by have e : b q = 62 := (nI_eq (by omega) (by decide)).mp h72_62; exact ⟨by rw [tkF, if_neg h35, if_neg h56, e]; rfl, rfl⟩)
      refine z_lookup 42 rfl (by decide) (off := 78) (by have e0 := z_ne (by decide) h72_40; have e1 := z_ne (by decide) h72_41; have e2 := z_ne (by decide) h72_59; have e3 := z_ne (by decide) h72_60; have e4 := z_ne (by decide) h72_61; have e5 := z_ne (by decide) h72_62; simp [Op.lookupswitch.offset, e0, e1, e2, e3, e4, e5]; try omega) (tgt := 150) rfl ?_
      refine z_bipush (v := nI 24) (by decide) (pc' := 152) 55 rfl rfl ?_
      exact z_ireturn 56 rfl rfl (by first | rfl | exact zbo_nar) rfl rfl (by exact ⟨by rw [tkF, if_neg h35, if_neg h56, show syF (b q) = 24 by unfold syF; rw [if_neg (fun z => h72_59 (congrArg nI z)), if_neg (fun z => h72_40 (congrArg nI z)), if_neg (fun z => h72_41 (congrArg nI z)), if_neg (fun z => h72_60 (congrArg nI z)), if_neg (fun z => h72_61 (congrArg nI z)), if_neg (fun z => h72_62 (congrArg nI z))]], rfl⟩)
    · refine z_al0 (pc' := 60) 33 rfl rfl ?_
      refine z_il1 (pc' := 61) 34 rfl rfl ?_
      refine z_il2 (pc' := 62) 35 rfl rfl ?_
      refine z_callV1 (pc' := 65) 36 rfl rfl k_Ta_61 (by assumption) (c_Ta_numberOf h47 h48 hb hln (by omega) (by omega) (fun i hi => run_D (ln := ln) h56 i hi)) (by decide) (Nat.le_refl _) (Nat.le_refl _) rfl rfl (Nat.le_of_ble_eq_true rfl) ?_
      exact z_ireturn 37 rfl rfl (by first | rfl | exact zbo_nar) rfl rfl (by exact ⟨by rw [tkF, if_neg h35, if_pos h56], rfl⟩)
  · refine z_al0 (pc' := 39) 20 rfl rfl ?_
    refine z_il1 (pc' := 40) 21 rfl rfl ?_
    refine z_il2 (pc' := 41) 22 rfl rfl ?_
    refine z_il1 (pc' := 42) 23 rfl rfl ?_
    first | refine z_isubN (by omega) (pc' := 43) 24 rfl rfl ?_ | refine z_isub (pc' := 43) 24 rfl rfl ?_
    refine z_callV1 (pc' := 46) 25 rfl rfl k_Ta_57 (by assumption) (c_Ta_wordOf h47 h48 hb hln (by omega) (fun i hi => run_L (ln := ln) h35 i (by omega))) (by decide) (Nat.le_refl _) (Nat.le_refl _) rfl rfl (Nat.le_of_ble_eq_true rfl) ?_
    exact z_ireturn 26 rfl rfl (by first | rfl | exact zbo_nar) rfl rfl (by exact ⟨by rw [tkF, if_pos h35], rfl⟩)
