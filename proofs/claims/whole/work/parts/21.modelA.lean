theorem hasI_lt {w : Nat} (hw : w ≤ 6) : hasI w < 0 ↔ w = 6 := by
  unfold hasI
  by_cases h : w = 6
  · rw [if_pos h]; exact ⟨fun _ => h, fun _ => by decide⟩
  · rw [if_neg h]; exact ⟨fun q => absurd q (nI_pos (by omega)), fun q => absurd q h⟩
theorem hasI_n {w : Nat} (h : w ≠ 6) : hasI w = nI w := if_neg h
theorem hasI_6 : hasI 6 = -1 := rfl
theorem hasI_eq {p w : Nat} (hp : p ≤ 6) (hw : w < 6) : hasI p = nI w ↔ p = w := by
  unfold hasI
  by_cases h : p = 6
  · rw [if_pos h]
    refine ⟨fun q => ?_, fun q => by omega⟩
    exfalso
    have := congrArg Int32.toInt q
    rw [nI_toInt (by omega), show (-1 : Int32).toInt = -1 from by decide] at this
    omega
  · rw [if_neg h]; exact nI_eq (by omega) (by omega)
section ZH2
variable {G : zG} {d : Nat} {M : zM} {pc pc' : Nat} {lv st : List Value} {n u : Nat} {μ : Nat → va_E} {nF uF : Nat} {Φ : zP}
theorem z_if_ltH {w : Nat} {off : Int} {tgt : Nat} (k : Nat) (hd : (mI M)[k]? = some (pc, .ifCond .lt off, 3)) (hp : pc + 3 = pc') (ht : (pc : Int) + off = (tgt : Int)) (hw : w ≤ 6) (kt : w = 6 → zW G d M tgt lv st n u μ nF uF Φ) (kf : w ≠ 6 → zW G d M pc' lv st n u μ nF uF Φ) : zW G d M pc lv (.int (hasI w) :: st) n u μ nF uF Φ :=
  z_if_lt k hd hp ht (fun h => kt ((hasI_lt hw).mp h)) (fun h => kf (fun e => h ((hasI_lt hw).mpr e)))
theorem z_if_geH {w : Nat} {off : Int} {tgt : Nat} (k : Nat) (hd : (mI M)[k]? = some (pc, .ifCond .ge off, 3)) (hp : pc + 3 = pc') (ht : (pc : Int) + off = (tgt : Int)) (hw : w ≤ 6) (kt : w ≠ 6 → zW G d M tgt lv st n u μ nF uF Φ) (kf : w = 6 → zW G d M pc' lv st n u μ nF uF Φ) : zW G d M pc lv (.int (hasI w) :: st) n u μ nF uF Φ :=
  z_if_ge k hd hp ht (fun h => kt (fun e => Int32.not_lt.mpr h ((hasI_lt hw).mpr e))) (fun h => kf ((hasI_lt hw).mp (Int32.not_le.mp h)))
theorem z_icmp_neH {p w : Nat} {off : Int} {tgt : Nat} (k : Nat) (hd : (mI M)[k]? = some (pc, .if_icmp .ne off, 3)) (hp : pc + 3 = pc') (ht : (pc : Int) + off = (tgt : Int)) (hpp : p ≤ 6) (hw : w < 6) (kt : p ≠ w → zW G d M tgt lv st n u μ nF uF Φ) (kf : p = w → zW G d M pc' lv st n u μ nF uF Φ) : zW G d M pc lv (.int (nI w) :: .int (hasI p) :: st) n u μ nF uF Φ :=
  z_icmp_ne k hd hp ht (fun h => kt (fun e => h ((hasI_eq hpp hw).mpr e))) (fun h => kf ((hasI_eq hpp hw).mp h))
end ZH2
set_option maxHeartbeats 4000000 in
set_option maxRecDepth 100000 in
theorem c_Mo_in {G : zG} {n u : Nat} {μ : Nat → va_E} (x a b : Int32) :
    zMet G 0 M_Mo_in [.int x, .int a, .int b] n u μ n u (zE (some (.int (zbo (a ≤ x ∧ x ≤ b)))) μ) := by
  refine z_start (lv := [.int x, .int a, .int b]) K_Mo_in rfl rfl (Nat.le_refl _) (Nat.le_refl _) (Nat.le_of_ble_eq_true rfl) rfl ?_
  refine z_il0 (pc' := 1) 0 rfl rfl ?_
  refine z_il1 (pc' := 2) 1 rfl rfl ?_
  first | refine z_icmp_ltN (pc' := 5) 2 rfl rfl (tgt := 14) rfl (by omega) (by omega) (fun h2 => ?_) (fun h2 => ?_) | refine z_icmp_lt (pc' := 5) 2 rfl rfl (tgt := 14) rfl (fun h2 => ?_) (fun h2 => ?_)
  · refine z_iconst (v := nI 0) (by decide) (pc' := 15) 8 rfl rfl ?_
    exact z_ireturn 9 rfl rfl (by first | rfl | exact zbo_nar) rfl rfl (by refine ⟨?_, rfl⟩; first | rw [zbo_t (by simp only [Int32.lt_iff_toInt_lt, Int32.le_iff_toInt_le, not_and, Classical.not_not] at *; omega)] | rw [zbo_f (by simp only [Int32.lt_iff_toInt_lt, Int32.le_iff_toInt_le, not_and, Classical.not_not] at *; omega)])
  · refine z_il0 (pc' := 6) 3 rfl rfl ?_
    refine z_il2 (pc' := 7) 4 rfl rfl ?_
    first | refine z_icmp_gtN (pc' := 10) 5 rfl rfl (tgt := 14) rfl (by omega) (by omega) (fun h7 => ?_) (fun h7 => ?_) | refine z_icmp_gt (pc' := 10) 5 rfl rfl (tgt := 14) rfl (fun h7 => ?_) (fun h7 => ?_)
    · refine z_iconst (v := nI 0) (by decide) (pc' := 15) 8 rfl rfl ?_
      exact z_ireturn 9 rfl rfl (by first | rfl | exact zbo_nar) rfl rfl (by refine ⟨?_, rfl⟩; first | rw [zbo_t (by simp only [Int32.lt_iff_toInt_lt, Int32.le_iff_toInt_le, not_and, Classical.not_not] at *; omega)] | rw [zbo_f (by simp only [Int32.lt_iff_toInt_lt, Int32.le_iff_toInt_le, not_and, Classical.not_not] at *; omega)])
    · refine z_iconst (v := nI 1) (by decide) (pc' := 11) 6 rfl rfl ?_
      refine z_goto 7 rfl (tgt := 15) rfl ?_
      exact z_ireturn 9 rfl rfl (by first | rfl | exact zbo_nar) rfl rfl (by refine ⟨?_, rfl⟩; first | rw [zbo_t (by simp only [Int32.lt_iff_toInt_lt, Int32.le_iff_toInt_le, not_and, Classical.not_not] at *; omega)] | rw [zbo_f (by simp only [Int32.lt_iff_toInt_lt, Int32.le_iff_toInt_le, not_and, Classical.not_not] at *; omega)])
set_option maxHeartbeats 4000000 in
set_option maxRecDepth 100000 in
theorem c_Mo_apart {G : zG} {n u : Nat} {μ : Nat → va_E} {p h : Nat} (hp : p ≤ 7) (hh : h ≤ 7) :
    zMet G 0 M_Mo_apart [.int (nI h), .int (nI p)] n u μ n u (zE (some (.int (nI (tn p h)))) μ) := by
  refine z_start (lv := [.int (nI h), .int (nI p), .retAddr 0]) K_Mo_apart rfl rfl (Nat.le_refl _) (Nat.le_refl _) (Nat.le_of_ble_eq_true rfl) rfl ?_
  refine z_il0 (pc' := 1) 0 rfl rfl ?_
  refine z_il1 (pc' := 2) 1 rfl rfl ?_
  first | refine z_icmp_geN (pc' := 5) 2 rfl rfl (tgt := 11) rfl (by omega) (by omega) (fun h2 => ?_) (fun h2 => ?_) | refine z_icmp_ge (pc' := 5) 2 rfl rfl (tgt := 11) rfl (fun h2 => ?_) (fun h2 => ?_)
  · refine z_il0 (pc' := 12) 7 rfl rfl ?_
    refine z_il1 (pc' := 13) 8 rfl rfl ?_
    first | refine z_isubN (by omega) (pc' := 14) 9 rfl rfl ?_ | refine z_isub (pc' := 14) 9 rfl rfl ?_
    refine z_is2 rfl rfl (pc' := 15) 10 rfl rfl ?_
    refine z_il2 (pc' := 16) 11 rfl rfl ?_
    refine z_bipush (v := nI 8) (by decide) (pc' := 18) 12 rfl rfl ?_
    refine z_il2 (pc' := 19) 13 rfl rfl ?_
    first | refine z_isubN (by omega) (pc' := 20) 14 rfl rfl ?_ | refine z_isub (pc' := 20) 14 rfl rfl ?_
    first | refine z_icmp_geN (pc' := 23) 15 rfl rfl (tgt := 27) rfl (by omega) (by omega) (fun h20 => ?_) (fun h20 => ?_) | refine z_icmp_ge (pc' := 23) 15 rfl rfl (tgt := 27) rfl (fun h20 => ?_) (fun h20 => ?_)
    · refine z_bipush (v := nI 8) (by decide) (pc' := 29) 18 rfl rfl ?_
      refine z_il2 (pc' := 30) 19 rfl rfl ?_
      first | refine z_isubN (by omega) (pc' := 31) 20 rfl rfl ?_ | refine z_isub (pc' := 31) 20 rfl rfl ?_
      exact z_ireturn 21 rfl rfl (by first | rfl | exact zbo_nar) rfl rfl (by refine ⟨?_, rfl⟩; congr 3; unfold tn; rw [if_neg (show ¬ h < p by omega)]; split <;> omega)
    · refine z_il2 (pc' := 24) 16 rfl rfl ?_
      refine z_goto 17 rfl (tgt := 31) rfl ?_
      exact z_ireturn 21 rfl rfl (by first | rfl | exact zbo_nar) rfl rfl (by refine ⟨?_, rfl⟩; congr 3; unfold tn; rw [if_neg (show ¬ h < p by omega)]; split <;> omega)
  · refine z_il1 (pc' := 6) 3 rfl rfl ?_
    refine z_il0 (pc' := 7) 4 rfl rfl ?_
    first | refine z_isubN (by omega) (pc' := 8) 5 rfl rfl ?_ | refine z_isub (pc' := 8) 5 rfl rfl ?_
    refine z_goto 6 rfl (tgt := 14) rfl ?_
    refine z_is2 rfl rfl (pc' := 15) 10 rfl rfl ?_
    refine z_il2 (pc' := 16) 11 rfl rfl ?_
    refine z_bipush (v := nI 8) (by decide) (pc' := 18) 12 rfl rfl ?_
    refine z_il2 (pc' := 19) 13 rfl rfl ?_
    first | refine z_isubN (by omega) (pc' := 20) 14 rfl rfl ?_ | refine z_isub (pc' := 20) 14 rfl rfl ?_
    first | refine z_icmp_geN (pc' := 23) 15 rfl rfl (tgt := 27) rfl (by omega) (by omega) (fun h20 => ?_) (fun h20 => ?_) | refine z_icmp_ge (pc' := 23) 15 rfl rfl (tgt := 27) rfl (fun h20 => ?_) (fun h20 => ?_)
    · refine z_bipush (v := nI 8) (by decide) (pc' := 29) 18 rfl rfl ?_
      refine z_il2 (pc' := 30) 19 rfl rfl ?_
      first | refine z_isubN (by omega) (pc' := 31) 20 rfl rfl ?_ | refine z_isub (pc' := 31) 20 rfl rfl ?_
      exact z_ireturn 21 rfl rfl (by first | rfl | exact zbo_nar) rfl rfl (by refine ⟨?_, rfl⟩; congr 3; unfold tn; rw [if_pos (show h < p by omega)]; split <;> omega)
    · refine z_il2 (pc' := 24) 16 rfl rfl ?_
      refine z_goto 17 rfl (tgt := 31) rfl ?_
      exact z_ireturn 21 rfl rfl (by first | rfl | exact zbo_nar) rfl rfl (by refine ⟨?_, rfl⟩; congr 3; unfold tn; rw [if_pos (show h < p by omega)]; split <;> omega)
set_option maxHeartbeats 4000000 in
set_option maxRecDepth 100000 in
theorem c_Mo_gains {G : zG} {n u : Nat} {μ : Nat → va_E} {k f t m : Nat} (hk : k ≤ 5) (hf : f ≤ 9) (ht : t ≤ 4) (hm : m ≤ 16) :
    zMet G 0 M_Mo_gains [.int (nI k), .int (nI t), .int (nI f), .int (nI m)] n u μ n u (zE (some (.int (nI (gn k f t m)))) μ) := by
  refine z_start (lv := [.int (nI k), .int (nI t), .int (nI f), .int (nI m), .retAddr 0, .retAddr 0, .retAddr 0]) K_Mo_gains rfl rfl (Nat.le_refl _) (Nat.le_refl _) (Nat.le_of_ble_eq_true rfl) rfl ?_
  refine z_il2 (pc' := 1) 0 rfl rfl ?_
  refine z_il1 (pc' := 2) 1 rfl rfl ?_
  first | refine z_icmp_leN (pc' := 5) 2 rfl rfl (tgt := 11) rfl (by omega) (by omega) (fun h2 => ?_) (fun h2 => ?_) | refine z_icmp_le (pc' := 5) 2 rfl rfl (tgt := 11) rfl (fun h2 => ?_) (fun h2 => ?_)
  · refine z_iconst (v := nI 0) (by decide) (pc' := 12) 7 rfl rfl ?_
    refine z_is4 rfl rfl (pc' := 14) 8 rfl rfl ?_
    refine z_il2 (pc' := 15) 9 rfl rfl ?_
    refine z_il1 (pc' := 16) 10 rfl rfl ?_
    refine z_iconst (v := nI 2) (by decide) (pc' := 17) 11 rfl rfl ?_
    refine z_idiv (by decide) (pc' := 18) 12 rfl rfl ?_
    rw [zd2 t (by omega)]
    first | refine z_icmp_leN (pc' := 21) 13 rfl rfl (tgt := 29) rfl (by omega) (by omega) (fun h18 => ?_) (fun h18 => ?_) | refine z_icmp_le (pc' := 21) 13 rfl rfl (tgt := 29) rfl (fun h18 => ?_) (fun h18 => ?_)
    · refine z_iconst (v := nI 0) (by decide) (pc' := 30) 20 rfl rfl ?_
      refine z_is5 rfl rfl (pc' := 32) 21 rfl rfl ?_
      refine z_il3 (pc' := 33) 22 rfl rfl ?_
      refine z_iconst (v := nI 3) (by decide) (pc' := 34) 23 rfl rfl ?_
      first | refine z_icmp_geN (pc' := 37) 24 rfl rfl (tgt := 41) rfl (by omega) (by omega) (fun h34 => ?_) (fun h34 => ?_) | refine z_icmp_ge (pc' := 37) 24 rfl rfl (tgt := 41) rfl (fun h34 => ?_) (fun h34 => ?_)
      · refine z_il4 (pc' := 43) 27 rfl rfl ?_
        refine z_is6 rfl rfl (pc' := 45) 28 rfl rfl ?_
        refine z_il0 (pc' := 46) 29 rfl rfl ?_
        first | refine z_swN (by omega) 1 (by decide) (fun h46_1 => ?_) (fun h46_1 => ?_) | refine z_sw 1 (fun h46_1 => ?_) (fun h46_1 => ?_)
        · refine z_tableIn 30 rfl (by decide) (by decide) (off := 34) rfl (tgt := 80) rfl ?_
          refine z_il4 (pc' := 82) 31 rfl rfl ?_
          refine z_iconst (v := nI 2) (by decide) (pc' := 83) 32 rfl rfl ?_
          refine z_idiv (by decide) (pc' := 84) 33 rfl rfl ?_
          rw [zd2 _ (by omega)]
          exact z_ireturn 34 rfl rfl (by first | rfl | exact zbo_nar) rfl rfl (by refine ⟨?_, rfl⟩; congr 3; first | (subst h46_1; simp only [gn] <;> omega) | (subst h46_2; simp only [gn] <;> omega) | (subst h46_3; simp only [gn] <;> omega) | (subst h46_4; simp only [gn]; split <;> omega) | (subst h46_5; simp only [gn]; split <;> omega) | (have hk0 : k = 0 := (by omega); subst hk0; simp only [gn] <;> omega))
        first | refine z_swN (by omega) 2 (by decide) (fun h46_2 => ?_) (fun h46_2 => ?_) | refine z_sw 2 (fun h46_2 => ?_) (fun h46_2 => ?_)
        · refine z_tableIn 30 rfl (by decide) (by decide) (off := 39) rfl (tgt := 85) rfl ?_
          refine z_il5 (pc' := 87) 35 rfl rfl ?_
          exact z_ireturn 36 rfl rfl (by first | rfl | exact zbo_nar) rfl rfl (by refine ⟨?_, rfl⟩; congr 3; first | (subst h46_1; simp only [gn] <;> omega) | (subst h46_2; simp only [gn] <;> omega) | (subst h46_3; simp only [gn] <;> omega) | (subst h46_4; simp only [gn]; split <;> omega) | (subst h46_5; simp only [gn]; split <;> omega) | (have hk0 : k = 0 := (by omega); subst hk0; simp only [gn] <;> omega))
        first | refine z_swN (by omega) 3 (by decide) (fun h46_3 => ?_) (fun h46_3 => ?_) | refine z_sw 3 (fun h46_3 => ?_) (fun h46_3 => ?_)
        · refine z_tableIn 30 rfl (by decide) (by decide) (off := 42) rfl (tgt := 88) rfl ?_
          refine z_il5 (pc' := 90) 37 rfl rfl ?_
          refine z_iconst (v := nI 1) (by decide) (pc' := 91) 38 rfl rfl ?_
          first | refine z_iaddN (pc' := 92) 39 rfl rfl ?_ | refine z_iadd (pc' := 92) 39 rfl rfl ?_
          exact z_ireturn 40 rfl rfl (by first | rfl | exact zbo_nar) rfl rfl (by refine ⟨?_, rfl⟩; congr 3; first | (subst h46_1; simp only [gn] <;> omega) | (subst h46_2; simp only [gn] <;> omega) | (subst h46_3; simp only [gn] <;> omega) | (subst h46_4; simp only [gn]; split <;> omega) | (subst h46_5; simp only [gn]; split <;> omega) | (have hk0 : k = 0 := (by omega); subst hk0; simp only [gn] <;> omega))
        first | refine z_swN (by omega) 4 (by decide) (fun h46_4 => ?_) (fun h46_4 => ?_) | refine z_sw 4 (fun h46_4 => ?_) (fun h46_4 => ?_)
        · refine z_tableIn 30 rfl (by decide) (by decide) (off := 47) rfl (tgt := 93) rfl ?_
          refine z_il6 (pc' := 95) 41 rfl rfl ?_
          exact z_ireturn 42 rfl rfl (by first | rfl | exact zbo_nar) rfl rfl (by refine ⟨?_, rfl⟩; congr 3; first | (subst h46_1; simp only [gn] <;> omega) | (subst h46_2; simp only [gn] <;> omega) | (subst h46_3; simp only [gn] <;> omega) | (subst h46_4; simp only [gn]; split <;> omega) | (subst h46_5; simp only [gn]; split <;> omega) | (have hk0 : k = 0 := (by omega); subst hk0; simp only [gn] <;> omega))
        first | refine z_swN (by omega) 5 (by decide) (fun h46_5 => ?_) (fun h46_5 => ?_) | refine z_sw 5 (fun h46_5 => ?_) (fun h46_5 => ?_)
        · refine z_tableIn 30 rfl (by decide) (by decide) (off := 50) rfl (tgt := 96) rfl ?_
          refine z_il6 (pc' := 98) 43 rfl rfl ?_
          refine z_bipush (v := nI 9) (by decide) (pc' := 100) 44 rfl rfl ?_
          first | refine z_iaddN (pc' := 101) 45 rfl rfl ?_ | refine z_iadd (pc' := 101) 45 rfl rfl ?_
          refine z_il2 (pc' := 102) 46 rfl rfl ?_
          first | refine z_isubN (by omega) (pc' := 103) 47 rfl rfl ?_ | refine z_isub (pc' := 103) 47 rfl rfl ?_
          exact z_ireturn 48 rfl rfl (by first | rfl | exact zbo_nar) rfl rfl (by refine ⟨?_, rfl⟩; congr 3; first | (subst h46_1; simp only [gn] <;> omega) | (subst h46_2; simp only [gn] <;> omega) | (subst h46_3; simp only [gn] <;> omega) | (subst h46_4; simp only [gn]; split <;> omega) | (subst h46_5; simp only [gn]; split <;> omega) | (have hk0 : k = 0 := (by omega); subst hk0; simp only [gn] <;> omega))
        refine z_tableOut 30 rfl (by first | (rw [nI_toInt (by omega)]; omega) | (have e1 := z_ne (by decide) h46_1; have e2 := z_ne (by decide) h46_2; have e3 := z_ne (by decide) h46_3; have e4 := z_ne (by decide) h46_4; have e5 := z_ne (by decide) h46_5; omega)) (tgt := 104) rfl ?_
        refine z_il4 (pc' := 106) 49 rfl rfl ?_
        exact z_ireturn 50 rfl rfl (by first | rfl | exact zbo_nar) rfl rfl (by refine ⟨?_, rfl⟩; congr 3; first | (subst h46_1; simp only [gn] <;> omega) | (subst h46_2; simp only [gn] <;> omega) | (subst h46_3; simp only [gn] <;> omega) | (subst h46_4; simp only [gn]; split <;> omega) | (subst h46_5; simp only [gn]; split <;> omega) | (have hk0 : k = 0 := (by omega); subst hk0; simp only [gn] <;> omega))
      · refine z_iconst (v := nI 0) (by decide) (pc' := 38) 25 rfl rfl ?_
        refine z_goto 26 rfl (tgt := 43) rfl ?_
        refine z_is6 rfl rfl (pc' := 45) 28 rfl rfl ?_
        refine z_il0 (pc' := 46) 29 rfl rfl ?_
        first | refine z_swN (by omega) 1 (by decide) (fun h46_1 => ?_) (fun h46_1 => ?_) | refine z_sw 1 (fun h46_1 => ?_) (fun h46_1 => ?_)
        · refine z_tableIn 30 rfl (by decide) (by decide) (off := 34) rfl (tgt := 80) rfl ?_
          refine z_il4 (pc' := 82) 31 rfl rfl ?_
          refine z_iconst (v := nI 2) (by decide) (pc' := 83) 32 rfl rfl ?_
          refine z_idiv (by decide) (pc' := 84) 33 rfl rfl ?_
          rw [zd2 _ (by omega)]
          exact z_ireturn 34 rfl rfl (by first | rfl | exact zbo_nar) rfl rfl (by refine ⟨?_, rfl⟩; congr 3; first | (subst h46_1; simp only [gn] <;> omega) | (subst h46_2; simp only [gn] <;> omega) | (subst h46_3; simp only [gn] <;> omega) | (subst h46_4; simp only [gn]; split <;> omega) | (subst h46_5; simp only [gn]; split <;> omega) | (have hk0 : k = 0 := (by omega); subst hk0; simp only [gn] <;> omega))
        first | refine z_swN (by omega) 2 (by decide) (fun h46_2 => ?_) (fun h46_2 => ?_) | refine z_sw 2 (fun h46_2 => ?_) (fun h46_2 => ?_)
        · refine z_tableIn 30 rfl (by decide) (by decide) (off := 39) rfl (tgt := 85) rfl ?_
          refine z_il5 (pc' := 87) 35 rfl rfl ?_
          exact z_ireturn 36 rfl rfl (by first | rfl | exact zbo_nar) rfl rfl (by refine ⟨?_, rfl⟩; congr 3; first | (subst h46_1; simp only [gn] <;> omega) | (subst h46_2; simp only [gn] <;> omega) | (subst h46_3; simp only [gn] <;> omega) | (subst h46_4; simp only [gn]; split <;> omega) | (subst h46_5; simp only [gn]; split <;> omega) | (have hk0 : k = 0 := (by omega); subst hk0; simp only [gn] <;> omega))
        first | refine z_swN (by omega) 3 (by decide) (fun h46_3 => ?_) (fun h46_3 => ?_) | refine z_sw 3 (fun h46_3 => ?_) (fun h46_3 => ?_)
        · refine z_tableIn 30 rfl (by decide) (by decide) (off := 42) rfl (tgt := 88) rfl ?_
          refine z_il5 (pc' := 90) 37 rfl rfl ?_
          refine z_iconst (v := nI 1) (by decide) (pc' := 91) 38 rfl rfl ?_
          first | refine z_iaddN (pc' := 92) 39 rfl rfl ?_ | refine z_iadd (pc' := 92) 39 rfl rfl ?_
          exact z_ireturn 40 rfl rfl (by first | rfl | exact zbo_nar) rfl rfl (by refine ⟨?_, rfl⟩; congr 3; first | (subst h46_1; simp only [gn] <;> omega) | (subst h46_2; simp only [gn] <;> omega) | (subst h46_3; simp only [gn] <;> omega) | (subst h46_4; simp only [gn]; split <;> omega) | (subst h46_5; simp only [gn]; split <;> omega) | (have hk0 : k = 0 := (by omega); subst hk0; simp only [gn] <;> omega))
        first | refine z_swN (by omega) 4 (by decide) (fun h46_4 => ?_) (fun h46_4 => ?_) | refine z_sw 4 (fun h46_4 => ?_) (fun h46_4 => ?_)
        · refine z_tableIn 30 rfl (by decide) (by decide) (off := 47) rfl (tgt := 93) rfl ?_
          refine z_il6 (pc' := 95) 41 rfl rfl ?_
          exact z_ireturn 42 rfl rfl (by first | rfl | exact zbo_nar) rfl rfl (by refine ⟨?_, rfl⟩; congr 3; first | (subst h46_1; simp only [gn] <;> omega) | (subst h46_2; simp only [gn] <;> omega) | (subst h46_3; simp only [gn] <;> omega) | (subst h46_4; simp only [gn]; split <;> omega) | (subst h46_5; simp only [gn]; split <;> omega) | (have hk0 : k = 0 := (by omega); subst hk0; simp only [gn] <;> omega))
        first | refine z_swN (by omega) 5 (by decide) (fun h46_5 => ?_) (fun h46_5 => ?_) | refine z_sw 5 (fun h46_5 => ?_) (fun h46_5 => ?_)
        · refine z_tableIn 30 rfl (by decide) (by decide) (off := 50) rfl (tgt := 96) rfl ?_
          refine z_il6 (pc' := 98) 43 rfl rfl ?_
          refine z_bipush (v := nI 9) (by decide) (pc' := 100) 44 rfl rfl ?_
          first | refine z_iaddN (pc' := 101) 45 rfl rfl ?_ | refine z_iadd (pc' := 101) 45 rfl rfl ?_
          refine z_il2 (pc' := 102) 46 rfl rfl ?_
          first | refine z_isubN (by omega) (pc' := 103) 47 rfl rfl ?_ | refine z_isub (pc' := 103) 47 rfl rfl ?_
          exact z_ireturn 48 rfl rfl (by first | rfl | exact zbo_nar) rfl rfl (by refine ⟨?_, rfl⟩; congr 3; first | (subst h46_1; simp only [gn] <;> omega) | (subst h46_2; simp only [gn] <;> omega) | (subst h46_3; simp only [gn] <;> omega) | (subst h46_4; simp only [gn]; split <;> omega) | (subst h46_5; simp only [gn]; split <;> omega) | (have hk0 : k = 0 := (by omega); subst hk0; simp only [gn] <;> omega))
        refine z_tableOut 30 rfl (by first | (rw [nI_toInt (by omega)]; omega) | (have e1 := z_ne (by decide) h46_1; have e2 := z_ne (by decide) h46_2; have e3 := z_ne (by decide) h46_3; have e4 := z_ne (by decide) h46_4; have e5 := z_ne (by decide) h46_5; omega)) (tgt := 104) rfl ?_
        refine z_il4 (pc' := 106) 49 rfl rfl ?_
        exact z_ireturn 50 rfl rfl (by first | rfl | exact zbo_nar) rfl rfl (by refine ⟨?_, rfl⟩; congr 3; first | (subst h46_1; simp only [gn] <;> omega) | (subst h46_2; simp only [gn] <;> omega) | (subst h46_3; simp only [gn] <;> omega) | (subst h46_4; simp only [gn]; split <;> omega) | (subst h46_5; simp only [gn]; split <;> omega) | (have hk0 : k = 0 := (by omega); subst hk0; simp only [gn] <;> omega))
    · refine z_il2 (pc' := 22) 14 rfl rfl ?_
      refine z_il1 (pc' := 23) 15 rfl rfl ?_
      refine z_iconst (v := nI 2) (by decide) (pc' := 24) 16 rfl rfl ?_
      refine z_idiv (by decide) (pc' := 25) 17 rfl rfl ?_
      rw [zd2 t (by omega)]
      first | refine z_isubN (by omega) (pc' := 26) 18 rfl rfl ?_ | refine z_isub (pc' := 26) 18 rfl rfl ?_
      refine z_goto 19 rfl (tgt := 30) rfl ?_
      refine z_is5 rfl rfl (pc' := 32) 21 rfl rfl ?_
      refine z_il3 (pc' := 33) 22 rfl rfl ?_
      refine z_iconst (v := nI 3) (by decide) (pc' := 34) 23 rfl rfl ?_
      first | refine z_icmp_geN (pc' := 37) 24 rfl rfl (tgt := 41) rfl (by omega) (by omega) (fun h34 => ?_) (fun h34 => ?_) | refine z_icmp_ge (pc' := 37) 24 rfl rfl (tgt := 41) rfl (fun h34 => ?_) (fun h34 => ?_)
      · refine z_il4 (pc' := 43) 27 rfl rfl ?_
        refine z_is6 rfl rfl (pc' := 45) 28 rfl rfl ?_
        refine z_il0 (pc' := 46) 29 rfl rfl ?_
        first | refine z_swN (by omega) 1 (by decide) (fun h46_1 => ?_) (fun h46_1 => ?_) | refine z_sw 1 (fun h46_1 => ?_) (fun h46_1 => ?_)
        · refine z_tableIn 30 rfl (by decide) (by decide) (off := 34) rfl (tgt := 80) rfl ?_
          refine z_il4 (pc' := 82) 31 rfl rfl ?_
          refine z_iconst (v := nI 2) (by decide) (pc' := 83) 32 rfl rfl ?_
          refine z_idiv (by decide) (pc' := 84) 33 rfl rfl ?_
          rw [zd2 _ (by omega)]
          exact z_ireturn 34 rfl rfl (by first | rfl | exact zbo_nar) rfl rfl (by refine ⟨?_, rfl⟩; congr 3; first | (subst h46_1; simp only [gn] <;> omega) | (subst h46_2; simp only [gn] <;> omega) | (subst h46_3; simp only [gn] <;> omega) | (subst h46_4; simp only [gn]; split <;> omega) | (subst h46_5; simp only [gn]; split <;> omega) | (have hk0 : k = 0 := (by omega); subst hk0; simp only [gn] <;> omega))
        first | refine z_swN (by omega) 2 (by decide) (fun h46_2 => ?_) (fun h46_2 => ?_) | refine z_sw 2 (fun h46_2 => ?_) (fun h46_2 => ?_)
        · refine z_tableIn 30 rfl (by decide) (by decide) (off := 39) rfl (tgt := 85) rfl ?_
          refine z_il5 (pc' := 87) 35 rfl rfl ?_
          exact z_ireturn 36 rfl rfl (by first | rfl | exact zbo_nar) rfl rfl (by refine ⟨?_, rfl⟩; congr 3; first | (subst h46_1; simp only [gn] <;> omega) | (subst h46_2; simp only [gn] <;> omega) | (subst h46_3; simp only [gn] <;> omega) | (subst h46_4; simp only [gn]; split <;> omega) | (subst h46_5; simp only [gn]; split <;> omega) | (have hk0 : k = 0 := (by omega); subst hk0; simp only [gn] <;> omega))
        first | refine z_swN (by omega) 3 (by decide) (fun h46_3 => ?_) (fun h46_3 => ?_) | refine z_sw 3 (fun h46_3 => ?_) (fun h46_3 => ?_)
        · refine z_tableIn 30 rfl (by decide) (by decide) (off := 42) rfl (tgt := 88) rfl ?_
          refine z_il5 (pc' := 90) 37 rfl rfl ?_
          refine z_iconst (v := nI 1) (by decide) (pc' := 91) 38 rfl rfl ?_
          first | refine z_iaddN (pc' := 92) 39 rfl rfl ?_ | refine z_iadd (pc' := 92) 39 rfl rfl ?_
          exact z_ireturn 40 rfl rfl (by first | rfl | exact zbo_nar) rfl rfl (by refine ⟨?_, rfl⟩; congr 3; first | (subst h46_1; simp only [gn] <;> omega) | (subst h46_2; simp only [gn] <;> omega) | (subst h46_3; simp only [gn] <;> omega) | (subst h46_4; simp only [gn]; split <;> omega) | (subst h46_5; simp only [gn]; split <;> omega) | (have hk0 : k = 0 := (by omega); subst hk0; simp only [gn] <;> omega))
        first | refine z_swN (by omega) 4 (by decide) (fun h46_4 => ?_) (fun h46_4 => ?_) | refine z_sw 4 (fun h46_4 => ?_) (fun h46_4 => ?_)
        · refine z_tableIn 30 rfl (by decide) (by decide) (off := 47) rfl (tgt := 93) rfl ?_
          refine z_il6 (pc' := 95) 41 rfl rfl ?_
          exact z_ireturn 42 rfl rfl (by first | rfl | exact zbo_nar) rfl rfl (by refine ⟨?_, rfl⟩; congr 3; first | (subst h46_1; simp only [gn] <;> omega) | (subst h46_2; simp only [gn] <;> omega) | (subst h46_3; simp only [gn] <;> omega) | (subst h46_4; simp only [gn]; split <;> omega) | (subst h46_5; simp only [gn]; split <;> omega) | (have hk0 : k = 0 := (by omega); subst hk0; simp only [gn] <;> omega))
        first | refine z_swN (by omega) 5 (by decide) (fun h46_5 => ?_) (fun h46_5 => ?_) | refine z_sw 5 (fun h46_5 => ?_) (fun h46_5 => ?_)
        · refine z_tableIn 30 rfl (by decide) (by decide) (off := 50) rfl (tgt := 96) rfl ?_
          refine z_il6 (pc' := 98) 43 rfl rfl ?_
          refine z_bipush (v := nI 9) (by decide) (pc' := 100) 44 rfl rfl ?_
          first | refine z_iaddN (pc' := 101) 45 rfl rfl ?_ | refine z_iadd (pc' := 101) 45 rfl rfl ?_
          refine z_il2 (pc' := 102) 46 rfl rfl ?_
          first | refine z_isubN (by omega) (pc' := 103) 47 rfl rfl ?_ | refine z_isub (pc' := 103) 47 rfl rfl ?_
          exact z_ireturn 48 rfl rfl (by first | rfl | exact zbo_nar) rfl rfl (by refine ⟨?_, rfl⟩; congr 3; first | (subst h46_1; simp only [gn] <;> omega) | (subst h46_2; simp only [gn] <;> omega) | (subst h46_3; simp only [gn] <;> omega) | (subst h46_4; simp only [gn]; split <;> omega) | (subst h46_5; simp only [gn]; split <;> omega) | (have hk0 : k = 0 := (by omega); subst hk0; simp only [gn] <;> omega))
        refine z_tableOut 30 rfl (by first | (rw [nI_toInt (by omega)]; omega) | (have e1 := z_ne (by decide) h46_1; have e2 := z_ne (by decide) h46_2; have e3 := z_ne (by decide) h46_3; have e4 := z_ne (by decide) h46_4; have e5 := z_ne (by decide) h46_5; omega)) (tgt := 104) rfl ?_
        refine z_il4 (pc' := 106) 49 rfl rfl ?_
        exact z_ireturn 50 rfl rfl (by first | rfl | exact zbo_nar) rfl rfl (by refine ⟨?_, rfl⟩; congr 3; first | (subst h46_1; simp only [gn] <;> omega) | (subst h46_2; simp only [gn] <;> omega) | (subst h46_3; simp only [gn] <;> omega) | (subst h46_4; simp only [gn]; split <;> omega) | (subst h46_5; simp only [gn]; split <;> omega) | (have hk0 : k = 0 := (by omega); subst hk0; simp only [gn] <;> omega))
      · refine z_iconst (v := nI 0) (by decide) (pc' := 38) 25 rfl rfl ?_
        refine z_goto 26 rfl (tgt := 43) rfl ?_
        refine z_is6 rfl rfl (pc' := 45) 28 rfl rfl ?_
        refine z_il0 (pc' := 46) 29 rfl rfl ?_
        first | refine z_swN (by omega) 1 (by decide) (fun h46_1 => ?_) (fun h46_1 => ?_) | refine z_sw 1 (fun h46_1 => ?_) (fun h46_1 => ?_)
        · refine z_tableIn 30 rfl (by decide) (by decide) (off := 34) rfl (tgt := 80) rfl ?_
          refine z_il4 (pc' := 82) 31 rfl rfl ?_
          refine z_iconst (v := nI 2) (by decide) (pc' := 83) 32 rfl rfl ?_
          refine z_idiv (by decide) (pc' := 84) 33 rfl rfl ?_
          rw [zd2 _ (by omega)]
          exact z_ireturn 34 rfl rfl (by first | rfl | exact zbo_nar) rfl rfl (by refine ⟨?_, rfl⟩; congr 3; first | (subst h46_1; simp only [gn] <;> omega) | (subst h46_2; simp only [gn] <;> omega) | (subst h46_3; simp only [gn] <;> omega) | (subst h46_4; simp only [gn]; split <;> omega) | (subst h46_5; simp only [gn]; split <;> omega) | (have hk0 : k = 0 := (by omega); subst hk0; simp only [gn] <;> omega))
        first | refine z_swN (by omega) 2 (by decide) (fun h46_2 => ?_) (fun h46_2 => ?_) | refine z_sw 2 (fun h46_2 => ?_) (fun h46_2 => ?_)
        · refine z_tableIn 30 rfl (by decide) (by decide) (off := 39) rfl (tgt := 85) rfl ?_
          refine z_il5 (pc' := 87) 35 rfl rfl ?_
          exact z_ireturn 36 rfl rfl (by first | rfl | exact zbo_nar) rfl rfl (by refine ⟨?_, rfl⟩; congr 3; first | (subst h46_1; simp only [gn] <;> omega) | (subst h46_2; simp only [gn] <;> omega) | (subst h46_3; simp only [gn] <;> omega) | (subst h46_4; simp only [gn]; split <;> omega) | (subst h46_5; simp only [gn]; split <;> omega) | (have hk0 : k = 0 := (by omega); subst hk0; simp only [gn] <;> omega))
        first | refine z_swN (by omega) 3 (by decide) (fun h46_3 => ?_) (fun h46_3 => ?_) | refine z_sw 3 (fun h46_3 => ?_) (fun h46_3 => ?_)
        · refine z_tableIn 30 rfl (by decide) (by decide) (off := 42) rfl (tgt := 88) rfl ?_
          refine z_il5 (pc' := 90) 37 rfl rfl ?_
          refine z_iconst (v := nI 1) (by decide) (pc' := 91) 38 rfl rfl ?_
          first | refine z_iaddN (pc' := 92) 39 rfl rfl ?_ | refine z_iadd (pc' := 92) 39 rfl rfl ?_
          exact z_ireturn 40 rfl rfl (by first | rfl | exact zbo_nar) rfl rfl (by refine ⟨?_, rfl⟩; congr 3; first | (subst h46_1; simp only [gn] <;> omega) | (subst h46_2; simp only [gn] <;> omega) | (subst h46_3; simp only [gn] <;> omega) | (subst h46_4; simp only [gn]; split <;> omega) | (subst h46_5; simp only [gn]; split <;> omega) | (have hk0 : k = 0 := (by omega); subst hk0; simp only [gn] <;> omega))
        first | refine z_swN (by omega) 4 (by decide) (fun h46_4 => ?_) (fun h46_4 => ?_) | refine z_sw 4 (fun h46_4 => ?_) (fun h46_4 => ?_)
        · refine z_tableIn 30 rfl (by decide) (by decide) (off := 47) rfl (tgt := 93) rfl ?_
          refine z_il6 (pc' := 95) 41 rfl rfl ?_
          exact z_ireturn 42 rfl rfl (by first | rfl | exact zbo_nar) rfl rfl (by refine ⟨?_, rfl⟩; congr 3; first | (subst h46_1; simp only [gn] <;> omega) | (subst h46_2; simp only [gn] <;> omega) | (subst h46_3; simp only [gn] <;> omega) | (subst h46_4; simp only [gn]; split <;> omega) | (subst h46_5; simp only [gn]; split <;> omega) | (have hk0 : k = 0 := (by omega); subst hk0; simp only [gn] <;> omega))
        first | refine z_swN (by omega) 5 (by decide) (fun h46_5 => ?_) (fun h46_5 => ?_) | refine z_sw 5 (fun h46_5 => ?_) (fun h46_5 => ?_)
        · refine z_tableIn 30 rfl (by decide) (by decide) (off := 50) rfl (tgt := 96) rfl ?_
          refine z_il6 (pc' := 98) 43 rfl rfl ?_
          refine z_bipush (v := nI 9) (by decide) (pc' := 100) 44 rfl rfl ?_
          first | refine z_iaddN (pc' := 101) 45 rfl rfl ?_ | refine z_iadd (pc' := 101) 45 rfl rfl ?_
          refine z_il2 (pc' := 102) 46 rfl rfl ?_
          first | refine z_isubN (by omega) (pc' := 103) 47 rfl rfl ?_ | refine z_isub (pc' := 103) 47 rfl rfl ?_
          exact z_ireturn 48 rfl rfl (by first | rfl | exact zbo_nar) rfl rfl (by refine ⟨?_, rfl⟩; congr 3; first | (subst h46_1; simp only [gn] <;> omega) | (subst h46_2; simp only [gn] <;> omega) | (subst h46_3; simp only [gn] <;> omega) | (subst h46_4; simp only [gn]; split <;> omega) | (subst h46_5; simp only [gn]; split <;> omega) | (have hk0 : k = 0 := (by omega); subst hk0; simp only [gn] <;> omega))
        refine z_tableOut 30 rfl (by first | (rw [nI_toInt (by omega)]; omega) | (have e1 := z_ne (by decide) h46_1; have e2 := z_ne (by decide) h46_2; have e3 := z_ne (by decide) h46_3; have e4 := z_ne (by decide) h46_4; have e5 := z_ne (by decide) h46_5; omega)) (tgt := 104) rfl ?_
        refine z_il4 (pc' := 106) 49 rfl rfl ?_
        exact z_ireturn 50 rfl rfl (by first | rfl | exact zbo_nar) rfl rfl (by refine ⟨?_, rfl⟩; congr 3; first | (subst h46_1; simp only [gn] <;> omega) | (subst h46_2; simp only [gn] <;> omega) | (subst h46_3; simp only [gn] <;> omega) | (subst h46_4; simp only [gn]; split <;> omega) | (subst h46_5; simp only [gn]; split <;> omega) | (have hk0 : k = 0 := (by omega); subst hk0; simp only [gn] <;> omega))
  · refine z_il2 (pc' := 6) 3 rfl rfl ?_
    refine z_il1 (pc' := 7) 4 rfl rfl ?_
    first | refine z_isubN (by omega) (pc' := 8) 5 rfl rfl ?_ | refine z_isub (pc' := 8) 5 rfl rfl ?_
    refine z_goto 6 rfl (tgt := 12) rfl ?_
    refine z_is4 rfl rfl (pc' := 14) 8 rfl rfl ?_
    refine z_il2 (pc' := 15) 9 rfl rfl ?_
    refine z_il1 (pc' := 16) 10 rfl rfl ?_
    refine z_iconst (v := nI 2) (by decide) (pc' := 17) 11 rfl rfl ?_
    refine z_idiv (by decide) (pc' := 18) 12 rfl rfl ?_
    rw [zd2 t (by omega)]
    first | refine z_icmp_leN (pc' := 21) 13 rfl rfl (tgt := 29) rfl (by omega) (by omega) (fun h18 => ?_) (fun h18 => ?_) | refine z_icmp_le (pc' := 21) 13 rfl rfl (tgt := 29) rfl (fun h18 => ?_) (fun h18 => ?_)
    · refine z_iconst (v := nI 0) (by decide) (pc' := 30) 20 rfl rfl ?_
      refine z_is5 rfl rfl (pc' := 32) 21 rfl rfl ?_
      refine z_il3 (pc' := 33) 22 rfl rfl ?_
      refine z_iconst (v := nI 3) (by decide) (pc' := 34) 23 rfl rfl ?_
      first | refine z_icmp_geN (pc' := 37) 24 rfl rfl (tgt := 41) rfl (by omega) (by omega) (fun h34 => ?_) (fun h34 => ?_) | refine z_icmp_ge (pc' := 37) 24 rfl rfl (tgt := 41) rfl (fun h34 => ?_) (fun h34 => ?_)
      · refine z_il4 (pc' := 43) 27 rfl rfl ?_
        refine z_is6 rfl rfl (pc' := 45) 28 rfl rfl ?_
        refine z_il0 (pc' := 46) 29 rfl rfl ?_
        first | refine z_swN (by omega) 1 (by decide) (fun h46_1 => ?_) (fun h46_1 => ?_) | refine z_sw 1 (fun h46_1 => ?_) (fun h46_1 => ?_)
        · refine z_tableIn 30 rfl (by decide) (by decide) (off := 34) rfl (tgt := 80) rfl ?_
          refine z_il4 (pc' := 82) 31 rfl rfl ?_
          refine z_iconst (v := nI 2) (by decide) (pc' := 83) 32 rfl rfl ?_
          refine z_idiv (by decide) (pc' := 84) 33 rfl rfl ?_
          rw [zd2 _ (by omega)]
          exact z_ireturn 34 rfl rfl (by first | rfl | exact zbo_nar) rfl rfl (by refine ⟨?_, rfl⟩; congr 3; first | (subst h46_1; simp only [gn] <;> omega) | (subst h46_2; simp only [gn] <;> omega) | (subst h46_3; simp only [gn] <;> omega) | (subst h46_4; simp only [gn]; split <;> omega) | (subst h46_5; simp only [gn]; split <;> omega) | (have hk0 : k = 0 := (by omega); subst hk0; simp only [gn] <;> omega))
        first | refine z_swN (by omega) 2 (by decide) (fun h46_2 => ?_) (fun h46_2 => ?_) | refine z_sw 2 (fun h46_2 => ?_) (fun h46_2 => ?_)
        · refine z_tableIn 30 rfl (by decide) (by decide) (off := 39) rfl (tgt := 85) rfl ?_
          refine z_il5 (pc' := 87) 35 rfl rfl ?_
          exact z_ireturn 36 rfl rfl (by first | rfl | exact zbo_nar) rfl rfl (by refine ⟨?_, rfl⟩; congr 3; first | (subst h46_1; simp only [gn] <;> omega) | (subst h46_2; simp only [gn] <;> omega) | (subst h46_3; simp only [gn] <;> omega) | (subst h46_4; simp only [gn]; split <;> omega) | (subst h46_5; simp only [gn]; split <;> omega) | (have hk0 : k = 0 := (by omega); subst hk0; simp only [gn] <;> omega))
        first | refine z_swN (by omega) 3 (by decide) (fun h46_3 => ?_) (fun h46_3 => ?_) | refine z_sw 3 (fun h46_3 => ?_) (fun h46_3 => ?_)
        · refine z_tableIn 30 rfl (by decide) (by decide) (off := 42) rfl (tgt := 88) rfl ?_
          refine z_il5 (pc' := 90) 37 rfl rfl ?_
          refine z_iconst (v := nI 1) (by decide) (pc' := 91) 38 rfl rfl ?_
          first | refine z_iaddN (pc' := 92) 39 rfl rfl ?_ | refine z_iadd (pc' := 92) 39 rfl rfl ?_
          exact z_ireturn 40 rfl rfl (by first | rfl | exact zbo_nar) rfl rfl (by refine ⟨?_, rfl⟩; congr 3; first | (subst h46_1; simp only [gn] <;> omega) | (subst h46_2; simp only [gn] <;> omega) | (subst h46_3; simp only [gn] <;> omega) | (subst h46_4; simp only [gn]; split <;> omega) | (subst h46_5; simp only [gn]; split <;> omega) | (have hk0 : k = 0 := (by omega); subst hk0; simp only [gn] <;> omega))
        first | refine z_swN (by omega) 4 (by decide) (fun h46_4 => ?_) (fun h46_4 => ?_) | refine z_sw 4 (fun h46_4 => ?_) (fun h46_4 => ?_)
        · refine z_tableIn 30 rfl (by decide) (by decide) (off := 47) rfl (tgt := 93) rfl ?_
          refine z_il6 (pc' := 95) 41 rfl rfl ?_
          exact z_ireturn 42 rfl rfl (by first | rfl | exact zbo_nar) rfl rfl (by refine ⟨?_, rfl⟩; congr 3; first | (subst h46_1; simp only [gn] <;> omega) | (subst h46_2; simp only [gn] <;> omega) | (subst h46_3; simp only [gn] <;> omega) | (subst h46_4; simp only [gn]; split <;> omega) | (subst h46_5; simp only [gn]; split <;> omega) | (have hk0 : k = 0 := (by omega); subst hk0; simp only [gn] <;> omega))
        first | refine z_swN (by omega) 5 (by decide) (fun h46_5 => ?_) (fun h46_5 => ?_) | refine z_sw 5 (fun h46_5 => ?_) (fun h46_5 => ?_)
        · refine z_tableIn 30 rfl (by decide) (by decide) (off := 50) rfl (tgt := 96) rfl ?_
          refine z_il6 (pc' := 98) 43 rfl rfl ?_
          refine z_bipush (v := nI 9) (by decide) (pc' := 100) 44 rfl rfl ?_
          first | refine z_iaddN (pc' := 101) 45 rfl rfl ?_ | refine z_iadd (pc' := 101) 45 rfl rfl ?_
          refine z_il2 (pc' := 102) 46 rfl rfl ?_
          first | refine z_isubN (by omega) (pc' := 103) 47 rfl rfl ?_ | refine z_isub (pc' := 103) 47 rfl rfl ?_
          exact z_ireturn 48 rfl rfl (by first | rfl | exact zbo_nar) rfl rfl (by refine ⟨?_, rfl⟩; congr 3; first | (subst h46_1; simp only [gn] <;> omega) | (subst h46_2; simp only [gn] <;> omega) | (subst h46_3; simp only [gn] <;> omega) | (subst h46_4; simp only [gn]; split <;> omega) | (subst h46_5; simp only [gn]; split <;> omega) | (have hk0 : k = 0 := (by omega); subst hk0; simp only [gn] <;> omega))
        refine z_tableOut 30 rfl (by first | (rw [nI_toInt (by omega)]; omega) | (have e1 := z_ne (by decide) h46_1; have e2 := z_ne (by decide) h46_2; have e3 := z_ne (by decide) h46_3; have e4 := z_ne (by decide) h46_4; have e5 := z_ne (by decide) h46_5; omega)) (tgt := 104) rfl ?_
        refine z_il4 (pc' := 106) 49 rfl rfl ?_
        exact z_ireturn 50 rfl rfl (by first | rfl | exact zbo_nar) rfl rfl (by refine ⟨?_, rfl⟩; congr 3; first | (subst h46_1; simp only [gn] <;> omega) | (subst h46_2; simp only [gn] <;> omega) | (subst h46_3; simp only [gn] <;> omega) | (subst h46_4; simp only [gn]; split <;> omega) | (subst h46_5; simp only [gn]; split <;> omega) | (have hk0 : k = 0 := (by omega); subst hk0; simp only [gn] <;> omega))
      · refine z_iconst (v := nI 0) (by decide) (pc' := 38) 25 rfl rfl ?_
        refine z_goto 26 rfl (tgt := 43) rfl ?_
        refine z_is6 rfl rfl (pc' := 45) 28 rfl rfl ?_
        refine z_il0 (pc' := 46) 29 rfl rfl ?_
        first | refine z_swN (by omega) 1 (by decide) (fun h46_1 => ?_) (fun h46_1 => ?_) | refine z_sw 1 (fun h46_1 => ?_) (fun h46_1 => ?_)
        · refine z_tableIn 30 rfl (by decide) (by decide) (off := 34) rfl (tgt := 80) rfl ?_
          refine z_il4 (pc' := 82) 31 rfl rfl ?_
          refine z_iconst (v := nI 2) (by decide) (pc' := 83) 32 rfl rfl ?_
          refine z_idiv (by decide) (pc' := 84) 33 rfl rfl ?_
          rw [zd2 _ (by omega)]
          exact z_ireturn 34 rfl rfl (by first | rfl | exact zbo_nar) rfl rfl (by refine ⟨?_, rfl⟩; congr 3; first | (subst h46_1; simp only [gn] <;> omega) | (subst h46_2; simp only [gn] <;> omega) | (subst h46_3; simp only [gn] <;> omega) | (subst h46_4; simp only [gn]; split <;> omega) | (subst h46_5; simp only [gn]; split <;> omega) | (have hk0 : k = 0 := (by omega); subst hk0; simp only [gn] <;> omega))
        first | refine z_swN (by omega) 2 (by decide) (fun h46_2 => ?_) (fun h46_2 => ?_) | refine z_sw 2 (fun h46_2 => ?_) (fun h46_2 => ?_)
        · refine z_tableIn 30 rfl (by decide) (by decide) (off := 39) rfl (tgt := 85) rfl ?_
          refine z_il5 (pc' := 87) 35 rfl rfl ?_
          exact z_ireturn 36 rfl rfl (by first | rfl | exact zbo_nar) rfl rfl (by refine ⟨?_, rfl⟩; congr 3; first | (subst h46_1; simp only [gn] <;> omega) | (subst h46_2; simp only [gn] <;> omega) | (subst h46_3; simp only [gn] <;> omega) | (subst h46_4; simp only [gn]; split <;> omega) | (subst h46_5; simp only [gn]; split <;> omega) | (have hk0 : k = 0 := (by omega); subst hk0; simp only [gn] <;> omega))
        first | refine z_swN (by omega) 3 (by decide) (fun h46_3 => ?_) (fun h46_3 => ?_) | refine z_sw 3 (fun h46_3 => ?_) (fun h46_3 => ?_)
        · refine z_tableIn 30 rfl (by decide) (by decide) (off := 42) rfl (tgt := 88) rfl ?_
          refine z_il5 (pc' := 90) 37 rfl rfl ?_
          refine z_iconst (v := nI 1) (by decide) (pc' := 91) 38 rfl rfl ?_
          first | refine z_iaddN (pc' := 92) 39 rfl rfl ?_ | refine z_iadd (pc' := 92) 39 rfl rfl ?_
          exact z_ireturn 40 rfl rfl (by first | rfl | exact zbo_nar) rfl rfl (by refine ⟨?_, rfl⟩; congr 3; first | (subst h46_1; simp only [gn] <;> omega) | (subst h46_2; simp only [gn] <;> omega) | (subst h46_3; simp only [gn] <;> omega) | (subst h46_4; simp only [gn]; split <;> omega) | (subst h46_5; simp only [gn]; split <;> omega) | (have hk0 : k = 0 := (by omega); subst hk0; simp only [gn] <;> omega))
        first | refine z_swN (by omega) 4 (by decide) (fun h46_4 => ?_) (fun h46_4 => ?_) | refine z_sw 4 (fun h46_4 => ?_) (fun h46_4 => ?_)
        · refine z_tableIn 30 rfl (by decide) (by decide) (off := 47) rfl (tgt := 93) rfl ?_
          refine z_il6 (pc' := 95) 41 rfl rfl ?_
          exact z_ireturn 42 rfl rfl (by first | rfl | exact zbo_nar) rfl rfl (by refine ⟨?_, rfl⟩; congr 3; first | (subst h46_1; simp only [gn] <;> omega) | (subst h46_2; simp only [gn] <;> omega) | (subst h46_3; simp only [gn] <;> omega) | (subst h46_4; simp only [gn]; split <;> omega) | (subst h46_5; simp only [gn]; split <;> omega) | (have hk0 : k = 0 := (by omega); subst hk0; simp only [gn] <;> omega))
        first | refine z_swN (by omega) 5 (by decide) (fun h46_5 => ?_) (fun h46_5 => ?_) | refine z_sw 5 (fun h46_5 => ?_) (fun h46_5 => ?_)
        · refine z_tableIn 30 rfl (by decide) (by decide) (off := 50) rfl (tgt := 96) rfl ?_
          refine z_il6 (pc' := 98) 43 rfl rfl ?_
          refine z_bipush (v := nI 9) (by decide) (pc' := 100) 44 rfl rfl ?_
          first | refine z_iaddN (pc' := 101) 45 rfl rfl ?_ | refine z_iadd (pc' := 101) 45 rfl rfl ?_
          refine z_il2 (pc' := 102) 46 rfl rfl ?_
          first | refine z_isubN (by omega) (pc' := 103) 47 rfl rfl ?_ | refine z_isub (pc' := 103) 47 rfl rfl ?_
          exact z_ireturn 48 rfl rfl (by first | rfl | exact zbo_nar) rfl rfl (by refine ⟨?_, rfl⟩; congr 3; first | (subst h46_1; simp only [gn] <;> omega) | (subst h46_2; simp only [gn] <;> omega) | (subst h46_3; simp only [gn] <;> omega) | (subst h46_4; simp only [gn]; split <;> omega) | (subst h46_5; simp only [gn]; split <;> omega) | (have hk0 : k = 0 := (by omega); subst hk0; simp only [gn] <;> omega))
        refine z_tableOut 30 rfl (by first | (rw [nI_toInt (by omega)]; omega) | (have e1 := z_ne (by decide) h46_1; have e2 := z_ne (by decide) h46_2; have e3 := z_ne (by decide) h46_3; have e4 := z_ne (by decide) h46_4; have e5 := z_ne (by decide) h46_5; omega)) (tgt := 104) rfl ?_
        refine z_il4 (pc' := 106) 49 rfl rfl ?_
        exact z_ireturn 50 rfl rfl (by first | rfl | exact zbo_nar) rfl rfl (by refine ⟨?_, rfl⟩; congr 3; first | (subst h46_1; simp only [gn] <;> omega) | (subst h46_2; simp only [gn] <;> omega) | (subst h46_3; simp only [gn] <;> omega) | (subst h46_4; simp only [gn]; split <;> omega) | (subst h46_5; simp only [gn]; split <;> omega) | (have hk0 : k = 0 := (by omega); subst hk0; simp only [gn] <;> omega))
    · refine z_il2 (pc' := 22) 14 rfl rfl ?_
      refine z_il1 (pc' := 23) 15 rfl rfl ?_
      refine z_iconst (v := nI 2) (by decide) (pc' := 24) 16 rfl rfl ?_
      refine z_idiv (by decide) (pc' := 25) 17 rfl rfl ?_
      rw [zd2 t (by omega)]
      first | refine z_isubN (by omega) (pc' := 26) 18 rfl rfl ?_ | refine z_isub (pc' := 26) 18 rfl rfl ?_
      refine z_goto 19 rfl (tgt := 30) rfl ?_
      refine z_is5 rfl rfl (pc' := 32) 21 rfl rfl ?_
      refine z_il3 (pc' := 33) 22 rfl rfl ?_
      refine z_iconst (v := nI 3) (by decide) (pc' := 34) 23 rfl rfl ?_
      first | refine z_icmp_geN (pc' := 37) 24 rfl rfl (tgt := 41) rfl (by omega) (by omega) (fun h34 => ?_) (fun h34 => ?_) | refine z_icmp_ge (pc' := 37) 24 rfl rfl (tgt := 41) rfl (fun h34 => ?_) (fun h34 => ?_)
      · refine z_il4 (pc' := 43) 27 rfl rfl ?_
        refine z_is6 rfl rfl (pc' := 45) 28 rfl rfl ?_
        refine z_il0 (pc' := 46) 29 rfl rfl ?_
        first | refine z_swN (by omega) 1 (by decide) (fun h46_1 => ?_) (fun h46_1 => ?_) | refine z_sw 1 (fun h46_1 => ?_) (fun h46_1 => ?_)
        · refine z_tableIn 30 rfl (by decide) (by decide) (off := 34) rfl (tgt := 80) rfl ?_
          refine z_il4 (pc' := 82) 31 rfl rfl ?_
          refine z_iconst (v := nI 2) (by decide) (pc' := 83) 32 rfl rfl ?_
          refine z_idiv (by decide) (pc' := 84) 33 rfl rfl ?_
          rw [zd2 _ (by omega)]
          exact z_ireturn 34 rfl rfl (by first | rfl | exact zbo_nar) rfl rfl (by refine ⟨?_, rfl⟩; congr 3; first | (subst h46_1; simp only [gn] <;> omega) | (subst h46_2; simp only [gn] <;> omega) | (subst h46_3; simp only [gn] <;> omega) | (subst h46_4; simp only [gn]; split <;> omega) | (subst h46_5; simp only [gn]; split <;> omega) | (have hk0 : k = 0 := (by omega); subst hk0; simp only [gn] <;> omega))
        first | refine z_swN (by omega) 2 (by decide) (fun h46_2 => ?_) (fun h46_2 => ?_) | refine z_sw 2 (fun h46_2 => ?_) (fun h46_2 => ?_)
        · refine z_tableIn 30 rfl (by decide) (by decide) (off := 39) rfl (tgt := 85) rfl ?_
          refine z_il5 (pc' := 87) 35 rfl rfl ?_
          exact z_ireturn 36 rfl rfl (by first | rfl | exact zbo_nar) rfl rfl (by refine ⟨?_, rfl⟩; congr 3; first | (subst h46_1; simp only [gn] <;> omega) | (subst h46_2; simp only [gn] <;> omega) | (subst h46_3; simp only [gn] <;> omega) | (subst h46_4; simp only [gn]; split <;> omega) | (subst h46_5; simp only [gn]; split <;> omega) | (have hk0 : k = 0 := (by omega); subst hk0; simp only [gn] <;> omega))
        first | refine z_swN (by omega) 3 (by decide) (fun h46_3 => ?_) (fun h46_3 => ?_) | refine z_sw 3 (fun h46_3 => ?_) (fun h46_3 => ?_)
        · refine z_tableIn 30 rfl (by decide) (by decide) (off := 42) rfl (tgt := 88) rfl ?_
          refine z_il5 (pc' := 90) 37 rfl rfl ?_
          refine z_iconst (v := nI 1) (by decide) (pc' := 91) 38 rfl rfl ?_
          first | refine z_iaddN (pc' := 92) 39 rfl rfl ?_ | refine z_iadd (pc' := 92) 39 rfl rfl ?_
          exact z_ireturn 40 rfl rfl (by first | rfl | exact zbo_nar) rfl rfl (by refine ⟨?_, rfl⟩; congr 3; first | (subst h46_1; simp only [gn] <;> omega) | (subst h46_2; simp only [gn] <;> omega) | (subst h46_3; simp only [gn] <;> omega) | (subst h46_4; simp only [gn]; split <;> omega) | (subst h46_5; simp only [gn]; split <;> omega) | (have hk0 : k = 0 := (by omega); subst hk0; simp only [gn] <;> omega))
        first | refine z_swN (by omega) 4 (by decide) (fun h46_4 => ?_) (fun h46_4 => ?_) | refine z_sw 4 (fun h46_4 => ?_) (fun h46_4 => ?_)
        · refine z_tableIn 30 rfl (by decide) (by decide) (off := 47) rfl (tgt := 93) rfl ?_
          refine z_il6 (pc' := 95) 41 rfl rfl ?_
          exact z_ireturn 42 rfl rfl (by first | rfl | exact zbo_nar) rfl rfl (by refine ⟨?_, rfl⟩; congr 3; first | (subst h46_1; simp only [gn] <;> omega) | (subst h46_2; simp only [gn] <;> omega) | (subst h46_3; simp only [gn] <;> omega) | (subst h46_4; simp only [gn]; split <;> omega) | (subst h46_5; simp only [gn]; split <;> omega) | (have hk0 : k = 0 := (by omega); subst hk0; simp only [gn] <;> omega))
        first | refine z_swN (by omega) 5 (by decide) (fun h46_5 => ?_) (fun h46_5 => ?_) | refine z_sw 5 (fun h46_5 => ?_) (fun h46_5 => ?_)
        · refine z_tableIn 30 rfl (by decide) (by decide) (off := 50) rfl (tgt := 96) rfl ?_
          refine z_il6 (pc' := 98) 43 rfl rfl ?_
          refine z_bipush (v := nI 9) (by decide) (pc' := 100) 44 rfl rfl ?_
          first | refine z_iaddN (pc' := 101) 45 rfl rfl ?_ | refine z_iadd (pc' := 101) 45 rfl rfl ?_
          refine z_il2 (pc' := 102) 46 rfl rfl ?_
          first | refine z_isubN (by omega) (pc' := 103) 47 rfl rfl ?_ | refine z_isub (pc' := 103) 47 rfl rfl ?_
          exact z_ireturn 48 rfl rfl (by first | rfl | exact zbo_nar) rfl rfl (by refine ⟨?_, rfl⟩; congr 3; first | (subst h46_1; simp only [gn] <;> omega) | (subst h46_2; simp only [gn] <;> omega) | (subst h46_3; simp only [gn] <;> omega) | (subst h46_4; simp only [gn]; split <;> omega) | (subst h46_5; simp only [gn]; split <;> omega) | (have hk0 : k = 0 := (by omega); subst hk0; simp only [gn] <;> omega))
        refine z_tableOut 30 rfl (by first | (rw [nI_toInt (by omega)]; omega) | (have e1 := z_ne (by decide) h46_1; have e2 := z_ne (by decide) h46_2; have e3 := z_ne (by decide) h46_3; have e4 := z_ne (by decide) h46_4; have e5 := z_ne (by decide) h46_5; omega)) (tgt := 104) rfl ?_
        refine z_il4 (pc' := 106) 49 rfl rfl ?_
        exact z_ireturn 50 rfl rfl (by first | rfl | exact zbo_nar) rfl rfl (by refine ⟨?_, rfl⟩; congr 3; first | (subst h46_1; simp only [gn] <;> omega) | (subst h46_2; simp only [gn] <;> omega) | (subst h46_3; simp only [gn] <;> omega) | (subst h46_4; simp only [gn]; split <;> omega) | (subst h46_5; simp only [gn]; split <;> omega) | (have hk0 : k = 0 := (by omega); subst hk0; simp only [gn] <;> omega))
      · refine z_iconst (v := nI 0) (by decide) (pc' := 38) 25 rfl rfl ?_
        refine z_goto 26 rfl (tgt := 43) rfl ?_
        refine z_is6 rfl rfl (pc' := 45) 28 rfl rfl ?_
        refine z_il0 (pc' := 46) 29 rfl rfl ?_
        first | refine z_swN (by omega) 1 (by decide) (fun h46_1 => ?_) (fun h46_1 => ?_) | refine z_sw 1 (fun h46_1 => ?_) (fun h46_1 => ?_)
        · refine z_tableIn 30 rfl (by decide) (by decide) (off := 34) rfl (tgt := 80) rfl ?_
          refine z_il4 (pc' := 82) 31 rfl rfl ?_
          refine z_iconst (v := nI 2) (by decide) (pc' := 83) 32 rfl rfl ?_
          refine z_idiv (by decide) (pc' := 84) 33 rfl rfl ?_
          rw [zd2 _ (by omega)]
          exact z_ireturn 34 rfl rfl (by first | rfl | exact zbo_nar) rfl rfl (by refine ⟨?_, rfl⟩; congr 3; first | (subst h46_1; simp only [gn] <;> omega) | (subst h46_2; simp only [gn] <;> omega) | (subst h46_3; simp only [gn] <;> omega) | (subst h46_4; simp only [gn]; split <;> omega) | (subst h46_5; simp only [gn]; split <;> omega) | (have hk0 : k = 0 := (by omega); subst hk0; simp only [gn] <;> omega))
        first | refine z_swN (by omega) 2 (by decide) (fun h46_2 => ?_) (fun h46_2 => ?_) | refine z_sw 2 (fun h46_2 => ?_) (fun h46_2 => ?_)
        · refine z_tableIn 30 rfl (by decide) (by decide) (off := 39) rfl (tgt := 85) rfl ?_
          refine z_il5 (pc' := 87) 35 rfl rfl ?_
          exact z_ireturn 36 rfl rfl (by first | rfl | exact zbo_nar) rfl rfl (by refine ⟨?_, rfl⟩; congr 3; first | (subst h46_1; simp only [gn] <;> omega) | (subst h46_2; simp only [gn] <;> omega) | (subst h46_3; simp only [gn] <;> omega) | (subst h46_4; simp only [gn]; split <;> omega) | (subst h46_5; simp only [gn]; split <;> omega) | (have hk0 : k = 0 := (by omega); subst hk0; simp only [gn] <;> omega))
        first | refine z_swN (by omega) 3 (by decide) (fun h46_3 => ?_) (fun h46_3 => ?_) | refine z_sw 3 (fun h46_3 => ?_) (fun h46_3 => ?_)
        · refine z_tableIn 30 rfl (by decide) (by decide) (off := 42) rfl (tgt := 88) rfl ?_
          refine z_il5 (pc' := 90) 37 rfl rfl ?_
          refine z_iconst (v := nI 1) (by decide) (pc' := 91) 38 rfl rfl ?_
          first | refine z_iaddN (pc' := 92) 39 rfl rfl ?_ | refine z_iadd (pc' := 92) 39 rfl rfl ?_
          exact z_ireturn 40 rfl rfl (by first | rfl | exact zbo_nar) rfl rfl (by refine ⟨?_, rfl⟩; congr 3; first | (subst h46_1; simp only [gn] <;> omega) | (subst h46_2; simp only [gn] <;> omega) | (subst h46_3; simp only [gn] <;> omega) | (subst h46_4; simp only [gn]; split <;> omega) | (subst h46_5; simp only [gn]; split <;> omega) | (have hk0 : k = 0 := (by omega); subst hk0; simp only [gn] <;> omega))
        first | refine z_swN (by omega) 4 (by decide) (fun h46_4 => ?_) (fun h46_4 => ?_) | refine z_sw 4 (fun h46_4 => ?_) (fun h46_4 => ?_)
        · refine z_tableIn 30 rfl (by decide) (by decide) (off := 47) rfl (tgt := 93) rfl ?_
          refine z_il6 (pc' := 95) 41 rfl rfl ?_
          exact z_ireturn 42 rfl rfl (by first | rfl | exact zbo_nar) rfl rfl (by refine ⟨?_, rfl⟩; congr 3; first | (subst h46_1; simp only [gn] <;> omega) | (subst h46_2; simp only [gn] <;> omega) | (subst h46_3; simp only [gn] <;> omega) | (subst h46_4; simp only [gn]; split <;> omega) | (subst h46_5; simp only [gn]; split <;> omega) | (have hk0 : k = 0 := (by omega); subst hk0; simp only [gn] <;> omega))
        first | refine z_swN (by omega) 5 (by decide) (fun h46_5 => ?_) (fun h46_5 => ?_) | refine z_sw 5 (fun h46_5 => ?_) (fun h46_5 => ?_)
        · refine z_tableIn 30 rfl (by decide) (by decide) (off := 50) rfl (tgt := 96) rfl ?_
          refine z_il6 (pc' := 98) 43 rfl rfl ?_
          refine z_bipush (v := nI 9) (by decide) (pc' := 100) 44 rfl rfl ?_
          first | refine z_iaddN (pc' := 101) 45 rfl rfl ?_ | refine z_iadd (pc' := 101) 45 rfl rfl ?_
          refine z_il2 (pc' := 102) 46 rfl rfl ?_
          first | refine z_isubN (by omega) (pc' := 103) 47 rfl rfl ?_ | refine z_isub (pc' := 103) 47 rfl rfl ?_
          exact z_ireturn 48 rfl rfl (by first | rfl | exact zbo_nar) rfl rfl (by refine ⟨?_, rfl⟩; congr 3; first | (subst h46_1; simp only [gn] <;> omega) | (subst h46_2; simp only [gn] <;> omega) | (subst h46_3; simp only [gn] <;> omega) | (subst h46_4; simp only [gn]; split <;> omega) | (subst h46_5; simp only [gn]; split <;> omega) | (have hk0 : k = 0 := (by omega); subst hk0; simp only [gn] <;> omega))
        refine z_tableOut 30 rfl (by first | (rw [nI_toInt (by omega)]; omega) | (have e1 := z_ne (by decide) h46_1; have e2 := z_ne (by decide) h46_2; have e3 := z_ne (by decide) h46_3; have e4 := z_ne (by decide) h46_4; have e5 := z_ne (by decide) h46_5; omega)) (tgt := 104) rfl ?_
        refine z_il4 (pc' := 106) 49 rfl rfl ?_
        exact z_ireturn 50 rfl rfl (by first | rfl | exact zbo_nar) rfl rfl (by refine ⟨?_, rfl⟩; congr 3; first | (subst h46_1; simp only [gn] <;> omega) | (subst h46_2; simp only [gn] <;> omega) | (subst h46_3; simp only [gn] <;> omega) | (subst h46_4; simp only [gn]; split <;> omega) | (subst h46_5; simp only [gn]; split <;> omega) | (have hk0 : k = 0 := (by omega); subst hk0; simp only [gn] <;> omega))
set_option maxHeartbeats 4000000 in
set_option maxRecDepth 100000 in
theorem c_Mo_isUnder {G : zG} {n u : Nat} {μ : Nat → va_E} {k a : Nat} (hk : k ≤ 5) (ha : a ≤ 5) :
    zMet G 0 M_Mo_isUnder [.int (nI k), .int (nI a)] n u μ n u (zE (some (.int (zbo (udB k a = true)))) μ) := by
  refine z_start (lv := [.int (nI k), .int (nI a)]) K_Mo_isUnder rfl rfl (Nat.le_refl _) (Nat.le_refl _) (Nat.le_of_ble_eq_true rfl) rfl ?_
  refine z_il1 (pc' := 1) 0 rfl rfl ?_
  first | refine z_if_eqB (pc' := 4) 1 rfl rfl (tgt := 29) rfl (fun h1 => ?_) (fun h1 => ?_) | refine z_if_eqN (pc' := 4) 1 rfl rfl (tgt := 29) rfl (by omega) (fun h1 => ?_) (fun h1 => ?_) | refine z_if_eq (pc' := 4) 1 rfl rfl (tgt := 29) rfl (fun h1 => ?_) (fun h1 => ?_)
  · refine z_iconst (v := nI 1) (by decide) (pc' := 30) 17 rfl rfl ?_
    refine z_goto 18 rfl (tgt := 34) rfl ?_
    exact z_ireturn 20 rfl rfl (by first | rfl | exact zbo_nar) rfl rfl (by refine ⟨?_, rfl⟩; rw [zbo_t ((udB_eq k hk a ha).mpr (by omega))])
  · refine z_il0 (pc' := 5) 2 rfl rfl ?_
    refine z_il1 (pc' := 6) 3 rfl rfl ?_
    first | refine z_icmp_eqN (pc' := 9) 4 rfl rfl (tgt := 29) rfl (by omega) (by omega) (fun h6 => ?_) (fun h6 => ?_) | refine z_icmp_eq (pc' := 9) 4 rfl rfl (tgt := 29) rfl (fun h6 => ?_) (fun h6 => ?_)
    · refine z_iconst (v := nI 1) (by decide) (pc' := 30) 17 rfl rfl ?_
      refine z_goto 18 rfl (tgt := 34) rfl ?_
      exact z_ireturn 20 rfl rfl (by first | rfl | exact zbo_nar) rfl rfl (by refine ⟨?_, rfl⟩; rw [zbo_t ((udB_eq k hk a ha).mpr (by omega))])
    · refine z_il1 (pc' := 10) 5 rfl rfl ?_
      refine z_iconst (v := nI 2) (by decide) (pc' := 11) 6 rfl rfl ?_
      first | refine z_icmp_neN (pc' := 14) 7 rfl rfl (tgt := 19) rfl (by omega) (by omega) (fun h11 => ?_) (fun h11 => ?_) | refine z_icmp_ne (pc' := 14) 7 rfl rfl (tgt := 19) rfl (fun h11 => ?_) (fun h11 => ?_)
      · refine z_il1 (pc' := 20) 11 rfl rfl ?_
        refine z_iconst (v := nI 4) (by decide) (pc' := 21) 12 rfl rfl ?_
        first | refine z_icmp_neN (pc' := 24) 13 rfl rfl (tgt := 33) rfl (by omega) (by omega) (fun h21 => ?_) (fun h21 => ?_) | refine z_icmp_ne (pc' := 24) 13 rfl rfl (tgt := 33) rfl (fun h21 => ?_) (fun h21 => ?_)
        · refine z_iconst (v := nI 0) (by decide) (pc' := 34) 19 rfl rfl ?_
          exact z_ireturn 20 rfl rfl (by first | rfl | exact zbo_nar) rfl rfl (by refine ⟨?_, rfl⟩; rw [zbo_f (fun z => absurd ((udB_eq k hk a ha).mp z) (by omega))])
        · refine z_il0 (pc' := 25) 14 rfl rfl ?_
          refine z_iconst (v := nI 5) (by decide) (pc' := 26) 15 rfl rfl ?_
          first | refine z_icmp_neN (pc' := 29) 16 rfl rfl (tgt := 33) rfl (by omega) (by omega) (fun h26 => ?_) (fun h26 => ?_) | refine z_icmp_ne (pc' := 29) 16 rfl rfl (tgt := 33) rfl (fun h26 => ?_) (fun h26 => ?_)
          · refine z_iconst (v := nI 0) (by decide) (pc' := 34) 19 rfl rfl ?_
            exact z_ireturn 20 rfl rfl (by first | rfl | exact zbo_nar) rfl rfl (by refine ⟨?_, rfl⟩; rw [zbo_f (fun z => absurd ((udB_eq k hk a ha).mp z) (by omega))])
          · refine z_iconst (v := nI 1) (by decide) (pc' := 30) 17 rfl rfl ?_
            refine z_goto 18 rfl (tgt := 34) rfl ?_
            exact z_ireturn 20 rfl rfl (by first | rfl | exact zbo_nar) rfl rfl (by refine ⟨?_, rfl⟩; rw [zbo_t ((udB_eq k hk a ha).mpr (by omega))])
      · refine z_il0 (pc' := 15) 8 rfl rfl ?_
        refine z_iconst (v := nI 3) (by decide) (pc' := 16) 9 rfl rfl ?_
        first | refine z_icmp_eqN (pc' := 19) 10 rfl rfl (tgt := 29) rfl (by omega) (by omega) (fun h16 => ?_) (fun h16 => ?_) | refine z_icmp_eq (pc' := 19) 10 rfl rfl (tgt := 29) rfl (fun h16 => ?_) (fun h16 => ?_)
        · refine z_iconst (v := nI 1) (by decide) (pc' := 30) 17 rfl rfl ?_
          refine z_goto 18 rfl (tgt := 34) rfl ?_
          exact z_ireturn 20 rfl rfl (by first | rfl | exact zbo_nar) rfl rfl (by refine ⟨?_, rfl⟩; rw [zbo_t ((udB_eq k hk a ha).mpr (by omega))])
        · refine z_il1 (pc' := 20) 11 rfl rfl ?_
          refine z_iconst (v := nI 4) (by decide) (pc' := 21) 12 rfl rfl ?_
          first | refine z_icmp_neN (pc' := 24) 13 rfl rfl (tgt := 33) rfl (by omega) (by omega) (fun h21 => ?_) (fun h21 => ?_) | refine z_icmp_ne (pc' := 24) 13 rfl rfl (tgt := 33) rfl (fun h21 => ?_) (fun h21 => ?_)
          · refine z_iconst (v := nI 0) (by decide) (pc' := 34) 19 rfl rfl ?_
            exact z_ireturn 20 rfl rfl (by first | rfl | exact zbo_nar) rfl rfl (by refine ⟨?_, rfl⟩; rw [zbo_f (fun z => absurd ((udB_eq k hk a ha).mp z) (by omega))])
          · refine z_il0 (pc' := 25) 14 rfl rfl ?_
            refine z_iconst (v := nI 5) (by decide) (pc' := 26) 15 rfl rfl ?_
            first | refine z_icmp_neN (pc' := 29) 16 rfl rfl (tgt := 33) rfl (by omega) (by omega) (fun h26 => ?_) (fun h26 => ?_) | refine z_icmp_ne (pc' := 29) 16 rfl rfl (tgt := 33) rfl (fun h26 => ?_) (fun h26 => ?_)
            · refine z_iconst (v := nI 0) (by decide) (pc' := 34) 19 rfl rfl ?_
              exact z_ireturn 20 rfl rfl (by first | rfl | exact zbo_nar) rfl rfl (by refine ⟨?_, rfl⟩; rw [zbo_f (fun z => absurd ((udB_eq k hk a ha).mp z) (by omega))])
            · refine z_iconst (v := nI 1) (by decide) (pc' := 30) 17 rfl rfl ?_
              refine z_goto 18 rfl (tgt := 34) rfl ?_
              exact z_ireturn 20 rfl rfl (by first | rfl | exact zbo_nar) rfl rfl (by refine ⟨?_, rfl⟩; rw [zbo_t ((udB_eq k hk a ha).mpr (by omega))])
set_option maxHeartbeats 4000000 in
set_option maxRecDepth 100000 in
theorem c_Mo_orSix {G : zG} {n u : Nat} {μ : Nat → va_E} {w : Nat} (hw : w ≤ 6) :
    zMet G 0 M_Mo_orSix [.int (hasI w)] n u μ n u (zE (some (.int (nI w))) μ) := by
  refine z_start (lv := [.int (hasI w)]) K_Mo_orSix rfl rfl (Nat.le_refl _) (Nat.le_refl _) (Nat.le_of_ble_eq_true rfl) rfl ?_
  refine z_il0 (pc' := 1) 0 rfl rfl ?_
  first | refine z_if_geH (pc' := 4) 1 rfl rfl (tgt := 9) rfl (by omega) (fun h1 => ?_) (fun h1 => ?_) | refine z_if_geN (pc' := 4) 1 rfl rfl (tgt := 9) rfl (by omega) (fun h1 => ?_) (fun h1 => ?_) | refine z_if_ge (pc' := 4) 1 rfl rfl (tgt := 9) rfl (fun h1 => ?_) (fun h1 => ?_)
  · refine z_il0 (pc' := 10) 4 rfl rfl ?_
    exact z_ireturn 5 rfl rfl (by first | rfl | exact zbo_nar) rfl rfl (by refine ⟨?_, rfl⟩; rw [hasI_n h1])
  · refine z_bipush (v := nI 6) (by decide) (pc' := 6) 2 rfl rfl ?_
    refine z_goto 3 rfl (tgt := 10) rfl ?_
    exact z_ireturn 5 rfl rfl (by first | rfl | exact zbo_nar) rfl rfl (by refine ⟨?_, rfl⟩; rw [h1])
set_option maxHeartbeats 4000000 in
set_option maxRecDepth 100000 in
theorem c_Mo_of {G : zG} {n u : Nat} {ν : Nat → va_E} {s m : Nat → Int32} {g w : Nat} (h : 32 + 5 * g + w < 618) :
    zMet G 0 M_Mo_of [.ref 88, .int (nI g), .int (nI w)] n u (pm ν s m) n u (zE (some (.int (m (32 + 5 * g + w)))) (pm ν s m)) := by
  refine z_start (lv := [.ref 88, .int (nI g), .int (nI w)]) K_Mo_of rfl rfl (Nat.le_refl _) (Nat.le_refl _) (Nat.le_of_ble_eq_true rfl) rfl ?_
  refine z_al0 (pc' := 1) 0 rfl rfl ?_
  refine z_getf (pc' := 4) 1 rfl rfl f_Mo_9_12 (by first | exact pm_f | exact pm_1 | (rw [pm_o (by decide)]; assumption)) (by rfl) ?_
  refine z_bipush (v := nI 32) (by decide) (pc' := 6) 2 rfl rfl ?_
  refine z_iconst (v := nI 5) (by decide) (pc' := 7) 3 rfl rfl ?_
  refine z_il1 (pc' := 8) 4 rfl rfl ?_
  first | refine z_imulN (pc' := 9) 5 rfl rfl ?_ | refine z_imul (pc' := 9) 5 rfl rfl ?_
  first | refine z_iaddN (pc' := 10) 6 rfl rfl ?_ | refine z_iadd (pc' := 10) 6 rfl rfl ?_
  refine z_il2 (pc' := 11) 7 rfl rfl ?_
  first | refine z_iaddN (pc' := 12) 8 rfl rfl ?_ | refine z_iadd (pc' := 12) 8 rfl rfl ?_
  refine z_iald (pc' := 13) 9 rfl rfl (by first | exact pm_f | exact pm_1 | (rw [pm_o (by decide)]; assumption)) (by omega) (by decide) ?_
  exact z_ireturn 10 rfl rfl (by first | rfl | exact zbo_nar) rfl rfl (by exact ⟨rfl, rfl⟩)
set_option maxHeartbeats 4000000 in
set_option maxRecDepth 100000 in
theorem c_Mo_put {G : zG} {n u : Nat} {ν : Nat → va_E} {s m : Nat → Int32} {g w : Nat} {x : Int32} (h : 32 + 5 * g + w < 618) :
    zMet G 0 M_Mo_put [.ref 88, .int (nI g), .int (nI w), .int x] n u (pm ν s m) n u (zE none (pm ν s (upd m (32 + 5 * g + w) x))) := by
  refine z_start (lv := [.ref 88, .int (nI g), .int (nI w), .int x]) K_Mo_put rfl rfl (Nat.le_refl _) (Nat.le_refl _) (Nat.le_of_ble_eq_true rfl) rfl ?_
  refine z_al0 (pc' := 1) 0 rfl rfl ?_
  refine z_getf (pc' := 4) 1 rfl rfl f_Mo_9_12 (by first | exact pm_f | exact pm_1 | (rw [pm_o (by decide)]; assumption)) (by rfl) ?_
  refine z_bipush (v := nI 32) (by decide) (pc' := 6) 2 rfl rfl ?_
  refine z_iconst (v := nI 5) (by decide) (pc' := 7) 3 rfl rfl ?_
  refine z_il1 (pc' := 8) 4 rfl rfl ?_
  first | refine z_imulN (pc' := 9) 5 rfl rfl ?_ | refine z_imul (pc' := 9) 5 rfl rfl ?_
  first | refine z_iaddN (pc' := 10) 6 rfl rfl ?_ | refine z_iadd (pc' := 10) 6 rfl rfl ?_
  refine z_il2 (pc' := 11) 7 rfl rfl ?_
  first | refine z_iaddN (pc' := 12) 8 rfl rfl ?_ | refine z_iadd (pc' := 12) 8 rfl rfl ?_
  refine z_il3 (pc' := 13) 9 rfl rfl ?_
  refine z_iast (pc' := 14) 10 rfl rfl (by first | exact pm_f | exact pm_1 | (rw [pm_o (by decide)]; assumption)) (by omega) (by decide) ?_
  rw [pm_s1]
  exact z_return 11 rfl rfl rfl rfl (by exact ⟨rfl, rfl⟩)
set_option maxHeartbeats 4000000 in
set_option maxRecDepth 100000 in
theorem c_Mo_blowing {G : zG} {n u : Nat} {ν : Nat → va_E} {s m : Nat → Int32} {g w : Nat} (h : 8 + 4 * g + w < 618) :
    zMet G 0 M_Mo_blowing [.ref 88, .int (nI g), .int (nI w)] n u (pm ν s m) n u (zE (some (.int (m (8 + 4 * g + w)))) (pm ν s m)) := by
  refine z_start (lv := [.ref 88, .int (nI g), .int (nI w)]) K_Mo_blowing rfl rfl (Nat.le_refl _) (Nat.le_refl _) (Nat.le_of_ble_eq_true rfl) rfl ?_
  refine z_al0 (pc' := 1) 0 rfl rfl ?_
  refine z_getf (pc' := 4) 1 rfl rfl f_Mo_9_12 (by first | exact pm_f | exact pm_1 | (rw [pm_o (by decide)]; assumption)) (by rfl) ?_
  refine z_bipush (v := nI 8) (by decide) (pc' := 6) 2 rfl rfl ?_
  refine z_iconst (v := nI 4) (by decide) (pc' := 7) 3 rfl rfl ?_
  refine z_il1 (pc' := 8) 4 rfl rfl ?_
  first | refine z_imulN (pc' := 9) 5 rfl rfl ?_ | refine z_imul (pc' := 9) 5 rfl rfl ?_
  first | refine z_iaddN (pc' := 10) 6 rfl rfl ?_ | refine z_iadd (pc' := 10) 6 rfl rfl ?_
  refine z_il2 (pc' := 11) 7 rfl rfl ?_
  first | refine z_iaddN (pc' := 12) 8 rfl rfl ?_ | refine z_iadd (pc' := 12) 8 rfl rfl ?_
  refine z_iald (pc' := 13) 9 rfl rfl (by first | exact pm_f | exact pm_1 | (rw [pm_o (by decide)]; assumption)) (by omega) (by decide) ?_
  exact z_ireturn 10 rfl rfl (by first | rfl | exact zbo_nar) rfl rfl (by exact ⟨rfl, rfl⟩)
set_option maxHeartbeats 4000000 in
set_option maxRecDepth 100000 in
theorem c_Mo_becomes {G : zG} {n u : Nat} {ν : Nat → va_E} {s m : Nat → Int32} {k : Nat} {x : Int32} (h : k < 618) :
    zMet G 0 M_Mo_becomes [.ref 88, .int (nI k), .int x] n u (pm ν s m) n u (zE (some (.int (m k))) (pm ν s (upd m k x))) := by
  refine z_start (lv := [.ref 88, .int (nI k), .int x, .retAddr 0]) K_Mo_becomes rfl rfl (Nat.le_refl _) (Nat.le_refl _) (Nat.le_of_ble_eq_true rfl) rfl ?_
  refine z_al0 (pc' := 1) 0 rfl rfl ?_
  refine z_getf (pc' := 4) 1 rfl rfl f_Mo_9_12 (by first | exact pm_f | exact pm_1 | (rw [pm_o (by decide)]; assumption)) (by rfl) ?_
  refine z_il1 (pc' := 5) 2 rfl rfl ?_
  refine z_iald (pc' := 6) 3 rfl rfl (by first | exact pm_f | exact pm_1 | (rw [pm_o (by decide)]; assumption)) (by omega) (by decide) ?_
  refine z_is3 rfl rfl (pc' := 7) 4 rfl rfl ?_
  refine z_al0 (pc' := 8) 5 rfl rfl ?_
  refine z_getf (pc' := 11) 6 rfl rfl f_Mo_9_12 (by first | exact pm_f | exact pm_1 | (rw [pm_o (by decide)]; assumption)) (by rfl) ?_
  refine z_il1 (pc' := 12) 7 rfl rfl ?_
  refine z_il2 (pc' := 13) 8 rfl rfl ?_
  refine z_iast (pc' := 14) 9 rfl rfl (by first | exact pm_f | exact pm_1 | (rw [pm_o (by decide)]; assumption)) (by omega) (by decide) ?_
  rw [pm_s1]
  refine z_il3 (pc' := 15) 10 rfl rfl ?_
  exact z_ireturn 11 rfl rfl (by first | rfl | exact zbo_nar) rfl rfl (by exact ⟨rfl, rfl⟩)
theorem c_Mo_of0 {G : zG} {n u : Nat} {ν : Nat → va_E} {s : Nat → Int32} {S : Nat → Nat → Nat} {mo : Nat} {pr fa : Nat → Nat} {sc ch : Int32} {rc : Nat} {ρ : Nat → Int32} {g : Nat} (hg : g < 6) : zMet G 0 M_Mo_of [.ref 88, .int (nI g), .int (nI 0)] n u (pm ν s (mk S mo pr fa sc ch rc ρ)) n u (zE (some (.int (nI (S 1 g)))) (pm ν s (mk S mo pr fa sc ch rc ρ))) := by
  have h := c_Mo_of (G := G) (n := n) (u := u) (ν := ν) (s := s) (m := mk S mo pr fa sc ch rc ρ) (g := g) (w := 0) (by omega)
  rw [mk_g0 hg] at h
  exact h
theorem c_Mo_of1 {G : zG} {n u : Nat} {ν : Nat → va_E} {s : Nat → Int32} {S : Nat → Nat → Nat} {mo : Nat} {pr fa : Nat → Nat} {sc ch : Int32} {rc : Nat} {ρ : Nat → Int32} {g : Nat} (hg : g < 6) : zMet G 0 M_Mo_of [.ref 88, .int (nI g), .int (nI 1)] n u (pm ν s (mk S mo pr fa sc ch rc ρ)) n u (zE (some (.int (nI (S 2 g)))) (pm ν s (mk S mo pr fa sc ch rc ρ))) := by
  have h := c_Mo_of (G := G) (n := n) (u := u) (ν := ν) (s := s) (m := mk S mo pr fa sc ch rc ρ) (g := g) (w := 1) (by omega)
  rw [mk_g1 hg] at h
  exact h
theorem c_Mo_of2 {G : zG} {n u : Nat} {ν : Nat → va_E} {s : Nat → Int32} {S : Nat → Nat → Nat} {mo : Nat} {pr fa : Nat → Nat} {sc ch : Int32} {rc : Nat} {ρ : Nat → Int32} {g : Nat} (hg : g < 6) : zMet G 0 M_Mo_of [.ref 88, .int (nI g), .int (nI 2)] n u (pm ν s (mk S mo pr fa sc ch rc ρ)) n u (zE (some (.int (nI (S 3 g)))) (pm ν s (mk S mo pr fa sc ch rc ρ))) := by
  have h := c_Mo_of (G := G) (n := n) (u := u) (ν := ν) (s := s) (m := mk S mo pr fa sc ch rc ρ) (g := g) (w := 2) (by omega)
  rw [mk_g2 hg] at h
  exact h
theorem c_Mo_of3 {G : zG} {n u : Nat} {ν : Nat → va_E} {s : Nat → Int32} {S : Nat → Nat → Nat} {mo : Nat} {pr fa : Nat → Nat} {sc ch : Int32} {rc : Nat} {ρ : Nat → Int32} {g : Nat} (hg : g < 6) : zMet G 0 M_Mo_of [.ref 88, .int (nI g), .int (nI 3)] n u (pm ν s (mk S mo pr fa sc ch rc ρ)) n u (zE (some (.int (hasI (pr g)))) (pm ν s (mk S mo pr fa sc ch rc ρ))) := by
  have h := c_Mo_of (G := G) (n := n) (u := u) (ν := ν) (s := s) (m := mk S mo pr fa sc ch rc ρ) (g := g) (w := 3) (by omega)
  rw [mk_g3 hg] at h
  exact h
theorem c_Mo_of4 {G : zG} {n u : Nat} {ν : Nat → va_E} {s : Nat → Int32} {S : Nat → Nat → Nat} {mo : Nat} {pr fa : Nat → Nat} {sc ch : Int32} {rc : Nat} {ρ : Nat → Int32} {g : Nat} (hg : g < 6) : zMet G 0 M_Mo_of [.ref 88, .int (nI g), .int (nI 4)] n u (pm ν s (mk S mo pr fa sc ch rc ρ)) n u (zE (some (.int (nI (fa g)))) (pm ν s (mk S mo pr fa sc ch rc ρ))) := by
  have h := c_Mo_of (G := G) (n := n) (u := u) (ν := ν) (s := s) (m := mk S mo pr fa sc ch rc ρ) (g := g) (w := 4) (by omega)
  rw [mk_g4 hg] at h
  exact h
theorem c_Mo_blowing0 {G : zG} {n u : Nat} {ν : Nat → va_E} {s : Nat → Int32} {S : Nat → Nat → Nat} {mo : Nat} {pr fa : Nat → Nat} {sc ch : Int32} {rc : Nat} {ρ : Nat → Int32} {w : Nat} (hw : w < 6) : zMet G 0 M_Mo_blowing [.ref 88, .int (nI w), .int (nI 0)] n u (pm ν s (mk S mo pr fa sc ch rc ρ)) n u (zE (some (.int (nI (S 4 w)))) (pm ν s (mk S mo pr fa sc ch rc ρ))) := by
  have h := c_Mo_blowing (G := G) (n := n) (u := u) (ν := ν) (s := s) (m := mk S mo pr fa sc ch rc ρ) (g := w) (w := 0) (by omega)
  rw [mk_w0 hw] at h
  exact h
theorem c_Mo_blowing1 {G : zG} {n u : Nat} {ν : Nat → va_E} {s : Nat → Int32} {S : Nat → Nat → Nat} {mo : Nat} {pr fa : Nat → Nat} {sc ch : Int32} {rc : Nat} {ρ : Nat → Int32} {w : Nat} (hw : w < 6) : zMet G 0 M_Mo_blowing [.ref 88, .int (nI w), .int (nI 1)] n u (pm ν s (mk S mo pr fa sc ch rc ρ)) n u (zE (some (.int (nI (S 5 w)))) (pm ν s (mk S mo pr fa sc ch rc ρ))) := by
  have h := c_Mo_blowing (G := G) (n := n) (u := u) (ν := ν) (s := s) (m := mk S mo pr fa sc ch rc ρ) (g := w) (w := 1) (by omega)
  rw [mk_w1 hw] at h
  exact h
theorem c_Mo_blowing2 {G : zG} {n u : Nat} {ν : Nat → va_E} {s : Nat → Int32} {S : Nat → Nat → Nat} {mo : Nat} {pr fa : Nat → Nat} {sc ch : Int32} {rc : Nat} {ρ : Nat → Int32} {w : Nat} (hw : w < 6) : zMet G 0 M_Mo_blowing [.ref 88, .int (nI w), .int (nI 2)] n u (pm ν s (mk S mo pr fa sc ch rc ρ)) n u (zE (some (.int (nI (S 6 w)))) (pm ν s (mk S mo pr fa sc ch rc ρ))) := by
  have h := c_Mo_blowing (G := G) (n := n) (u := u) (ν := ν) (s := s) (m := mk S mo pr fa sc ch rc ρ) (g := w) (w := 2) (by omega)
  rw [mk_w2 hw] at h
  exact h
theorem c_Mo_blowing3 {G : zG} {n u : Nat} {ν : Nat → va_E} {s : Nat → Int32} {S : Nat → Nat → Nat} {mo : Nat} {pr fa : Nat → Nat} {sc ch : Int32} {rc : Nat} {ρ : Nat → Int32} {w : Nat} (hw : w < 6) : zMet G 0 M_Mo_blowing [.ref 88, .int (nI w), .int (nI 3)] n u (pm ν s (mk S mo pr fa sc ch rc ρ)) n u (zE (some (.int (nI (S 7 w)))) (pm ν s (mk S mo pr fa sc ch rc ρ))) := by
  have h := c_Mo_blowing (G := G) (n := n) (u := u) (ν := ν) (s := s) (m := mk S mo pr fa sc ch rc ρ) (g := w) (w := 3) (by omega)
  rw [mk_w3 hw] at h
  exact h
theorem c_Mo_put3 {G : zG} {n u : Nat} {ν : Nat → va_E} {s : Nat → Int32} {S : Nat → Nat → Nat} {mo : Nat} {pr fa : Nat → Nat} {sc ch : Int32} {rc : Nat} {ρ : Nat → Int32} {g x : Nat} (hg : g < 6) : zMet G 0 M_Mo_put [.ref 88, .int (nI g), .int (nI 3), .int (hasI x)] n u (pm ν s (mk S mo pr fa sc ch rc ρ)) n u (zE none (pm ν s (mk S mo (un pr g x) fa sc ch rc ρ))) := by
  have h := c_Mo_put (G := G) (n := n) (u := u) (ν := ν) (s := s) (m := mk S mo pr fa sc ch rc ρ) (g := g) (w := 3) (x := hasI x) (by omega)
  rw [mk_u_pr hg] at h
  exact h
theorem c_Mo_put4 {G : zG} {n u : Nat} {ν : Nat → va_E} {s : Nat → Int32} {S : Nat → Nat → Nat} {mo : Nat} {pr fa : Nat → Nat} {sc ch : Int32} {rc : Nat} {ρ : Nat → Int32} {g x : Nat} (hg : g < 6) : zMet G 0 M_Mo_put [.ref 88, .int (nI g), .int (nI 4), .int (nI x)] n u (pm ν s (mk S mo pr fa sc ch rc ρ)) n u (zE none (pm ν s (mk S mo pr (un fa g x) sc ch rc ρ))) := by
  have h := c_Mo_put (G := G) (n := n) (u := u) (ν := ν) (s := s) (m := mk S mo pr fa sc ch rc ρ) (g := g) (w := 4) (x := nI x) (by omega)
  rw [mk_u_fa hg] at h
  exact h
theorem c_Mo_put2 {G : zG} {n u : Nat} {ν : Nat → va_E} {s : Nat → Int32} {S : Nat → Nat → Nat} {mo : Nat} {pr fa : Nat → Nat} {sc ch : Int32} {rc : Nat} {ρ : Nat → Int32} {g x : Nat} (hg : g < 6) : zMet G 0 M_Mo_put [.ref 88, .int (nI g), .int (nI 2), .int (nI x)] n u (pm ν s (mk S mo pr fa sc ch rc ρ)) n u (zE none (pm ν s (mk (un S 3 (un (S 3) g x)) mo pr fa sc ch rc ρ))) := by
  have h := c_Mo_put (G := G) (n := n) (u := u) (ν := ν) (s := s) (m := mk S mo pr fa sc ch rc ρ) (g := g) (w := 2) (x := nI x) (by omega)
  rw [mk_u_dw hg] at h
  exact h
theorem c_Mo_put1 {G : zG} {n u : Nat} {ν : Nat → va_E} {s : Nat → Int32} {S : Nat → Nat → Nat} {mo : Nat} {pr fa : Nat → Nat} {sc ch : Int32} {rc : Nat} {ρ : Nat → Int32} {g x : Nat} (hg : g < 6) : zMet G 0 M_Mo_put [.ref 88, .int (nI g), .int (nI 1), .int (nI x)] n u (pm ν s (mk S mo pr fa sc ch rc ρ)) n u (zE none (pm ν s (mk (un S 2 (un (S 2) g x)) mo pr fa sc ch rc ρ))) := by
  have h := c_Mo_put (G := G) (n := n) (u := u) (ν := ν) (s := s) (m := mk S mo pr fa sc ch rc ρ) (g := g) (w := 1) (x := nI x) (by omega)
  rw [mk_u_hs hg] at h
  exact h
theorem c_Mo_put0 {G : zG} {n u : Nat} {ν : Nat → va_E} {s : Nat → Int32} {S : Nat → Nat → Nat} {mo : Nat} {pr fa : Nat → Nat} {sc ch : Int32} {rc : Nat} {ρ : Nat → Int32} {g x : Nat} (hg : g < 6) : zMet G 0 M_Mo_put [.ref 88, .int (nI g), .int (nI 0), .int (nI x)] n u (pm ν s (mk S mo pr fa sc ch rc ρ)) n u (zE none (pm ν s (mk (un S 1 (un (S 1) g x)) mo pr fa sc ch rc ρ))) := by
  have h := c_Mo_put (G := G) (n := n) (u := u) (ν := ν) (s := s) (m := mk S mo pr fa sc ch rc ρ) (g := g) (w := 0) (x := nI x) (by omega)
  rw [mk_u_kd hg] at h
  exact h
theorem sub1_lt {x : Int32} {k : Nat} (hk : k ≤ 6) : (nI 0 ≤ x ∧ x ≤ nI k - nI 1) ↔ (0 ≤ x ∧ x < nI k) := by
  have h1 : (nI k - nI 1).toInt = (k : Int) - 1 := pk_sub_toInt (by omega) (by omega)
  have h2 : (nI k).toInt = (k : Int) := nI_toInt (by omega)
  simp only [Int32.lt_iff_toInt_lt, Int32.le_iff_toInt_le, h1, h2, show (nI 0).toInt = 0 from by decide, show (0 : Int32).toInt = 0 from by decide]
  omega
theorem zbo_c {c e : Prop} [Decidable c] [Decidable e] (h : c ↔ e) : zbo c = zbo e := by
  unfold zbo
  by_cases q : c
  · rw [if_pos q, if_pos (h.mp q)]
  · rw [if_neg q, if_neg (fun z => q (h.mpr z))]
set_option maxHeartbeats 4000000 in
set_option maxRecDepth 100000 in
theorem c_Mo_isGirl {G : zG} {n u : Nat} {ν : Nat → va_E} {s : Nat → Int32} {S : Nat → Nat → Nat} {mo : Nat} {pr fa : Nat → Nat} {sc ch : Int32} {rc : Nat} {ρ : Nat → Int32} (hi : iS S) (x : Int32) :
    zMet G 1 M_Mo_isGirl [.ref 88, .int x] n u (pm ν s (mk S mo pr fa sc ch rc ρ)) n u (zE (some (.int (zbo (0 ≤ x ∧ x < nI (S 0 0))))) (pm ν s (mk S mo pr fa sc ch rc ρ))) := by
  refine z_start (lv := [.ref 88, .int x]) K_Mo_isGirl rfl rfl (Nat.le_refl _) (Nat.le_refl _) (Nat.le_of_ble_eq_true rfl) rfl ?_
  have hi0 := hi.1
  have hi1 := hi.2.1
  refine z_il1 (pc' := 1) 0 rfl rfl ?_
  refine z_iconst (v := nI 0) (by decide) (pc' := 2) 1 rfl rfl ?_
  refine z_al0 (pc' := 3) 2 rfl rfl ?_
  refine z_getf (pc' := 6) 3 rfl rfl f_Mo_9_12 (by first | exact pm_f | exact pm_1 | (rw [pm_o (by decide)]; assumption)) (by rfl) ?_
  refine z_iconst (v := nI 3) (by decide) (pc' := 7) 4 rfl rfl ?_
  refine z_iald (pc' := 8) 5 rfl rfl (by first | exact pm_f | exact pm_1 | (rw [pm_o (by decide)]; assumption)) (by omega) (by decide) ?_
  rw [mk_3]
  refine z_iconst (v := nI 1) (by decide) (pc' := 9) 6 rfl rfl ?_
  refine z_isub (pc' := 10) 7 rfl rfl ?_
  refine z_callS1 (pc' := 13) 8 rfl rfl k_Mo_67 (c_Mo_in _ _ _) (by decide) (Nat.le_refl _) (Nat.le_refl _) rfl rfl (Nat.le_of_ble_eq_true rfl) ?_
  exact z_ireturn 9 rfl rfl (by first | rfl | exact zbo_nar) rfl rfl (by refine ⟨?_, rfl⟩; rw [zbo_c (sub1_lt hi0)])
set_option maxHeartbeats 4000000 in
set_option maxRecDepth 100000 in
theorem c_Mo_isWind {G : zG} {n u : Nat} {ν : Nat → va_E} {s : Nat → Int32} {S : Nat → Nat → Nat} {mo : Nat} {pr fa : Nat → Nat} {sc ch : Int32} {rc : Nat} {ρ : Nat → Int32} (hi : iS S) (x : Int32) :
    zMet G 1 M_Mo_isWind [.ref 88, .int x] n u (pm ν s (mk S mo pr fa sc ch rc ρ)) n u (zE (some (.int (zbo (0 ≤ x ∧ x < nI (S 0 1))))) (pm ν s (mk S mo pr fa sc ch rc ρ))) := by
  refine z_start (lv := [.ref 88, .int x]) K_Mo_isWind rfl rfl (Nat.le_refl _) (Nat.le_refl _) (Nat.le_of_ble_eq_true rfl) rfl ?_
  have hi0 := hi.1
  have hi1 := hi.2.1
  refine z_il1 (pc' := 1) 0 rfl rfl ?_
  refine z_iconst (v := nI 0) (by decide) (pc' := 2) 1 rfl rfl ?_
  refine z_al0 (pc' := 3) 2 rfl rfl ?_
  refine z_getf (pc' := 6) 3 rfl rfl f_Mo_9_12 (by first | exact pm_f | exact pm_1 | (rw [pm_o (by decide)]; assumption)) (by rfl) ?_
  refine z_iconst (v := nI 2) (by decide) (pc' := 7) 4 rfl rfl ?_
  refine z_iald (pc' := 8) 5 rfl rfl (by first | exact pm_f | exact pm_1 | (rw [pm_o (by decide)]; assumption)) (by omega) (by decide) ?_
  rw [mk_2]
  refine z_iconst (v := nI 1) (by decide) (pc' := 9) 6 rfl rfl ?_
  refine z_isub (pc' := 10) 7 rfl rfl ?_
  refine z_callS1 (pc' := 13) 8 rfl rfl k_Mo_67 (c_Mo_in _ _ _) (by decide) (Nat.le_refl _) (Nat.le_refl _) rfl rfl (Nat.le_of_ble_eq_true rfl) ?_
  exact z_ireturn 9 rfl rfl (by first | rfl | exact zbo_nar) rfl rfl (by refine ⟨?_, rfl⟩; rw [zbo_c (sub1_lt hi1)])
set_option maxHeartbeats 4000000 in
set_option maxRecDepth 100000 in
theorem c_Mo_isOver {G : zG} {n u : Nat} {ν : Nat → va_E} {s : Nat → Int32} {S : Nat → Nat → Nat} {mo : Nat} {pr fa : Nat → Nat} {sc ch : Int32} {rc : Nat} {ρ : Nat → Int32} (hi : iS S) (hm : mo ≤ 16) :
    zMet G 0 M_Mo_isOver [.ref 88] n u (pm ν s (mk S mo pr fa sc ch rc ρ)) n u (zE (some (.int (zbo (S 0 3 ≤ mo)))) (pm ν s (mk S mo pr fa sc ch rc ρ))) := by
  refine z_start (lv := [.ref 88]) K_Mo_isOver rfl rfl (Nat.le_refl _) (Nat.le_refl _) (Nat.le_of_ble_eq_true rfl) rfl ?_
  have hi0 := hi.1
  have hi1 := hi.2.1
  have hi2 := hi.2.2.2.2.1
  refine z_al0 (pc' := 1) 0 rfl rfl ?_
  refine z_getf (pc' := 4) 1 rfl rfl f_Mo_9_12 (by first | exact pm_f | exact pm_1 | (rw [pm_o (by decide)]; assumption)) (by rfl) ?_
  refine z_iconst (v := nI 1) (by decide) (pc' := 5) 2 rfl rfl ?_
  refine z_iald (pc' := 6) 3 rfl rfl (by first | exact pm_f | exact pm_1 | (rw [pm_o (by decide)]; assumption)) (by omega) (by decide) ?_
  rw [mk_1]
  refine z_al0 (pc' := 7) 4 rfl rfl ?_
  refine z_getf (pc' := 10) 5 rfl rfl f_Mo_9_12 (by first | exact pm_f | exact pm_1 | (rw [pm_o (by decide)]; assumption)) (by rfl) ?_
  refine z_iconst (v := nI 0) (by decide) (pc' := 11) 6 rfl rfl ?_
  refine z_iald (pc' := 12) 7 rfl rfl (by first | exact pm_f | exact pm_1 | (rw [pm_o (by decide)]; assumption)) (by omega) (by decide) ?_
  rw [mk_0]
  first | refine z_icmp_ltN (pc' := 15) 8 rfl rfl (tgt := 19) rfl (by omega) (by omega) (fun h12 => ?_) (fun h12 => ?_) | refine z_icmp_lt (pc' := 15) 8 rfl rfl (tgt := 19) rfl (fun h12 => ?_) (fun h12 => ?_)
  · refine z_iconst (v := nI 0) (by decide) (pc' := 20) 11 rfl rfl ?_
    exact z_ireturn 12 rfl rfl (by first | rfl | exact zbo_nar) rfl rfl (by refine ⟨?_, rfl⟩; first | rw [zbo_t h12] | rw [zbo_f (Nat.not_le.mpr h12)])
  · refine z_iconst (v := nI 1) (by decide) (pc' := 16) 9 rfl rfl ?_
    refine z_goto 10 rfl (tgt := 20) rfl ?_
    exact z_ireturn 12 rfl rfl (by first | rfl | exact zbo_nar) rfl rfl (by refine ⟨?_, rfl⟩; first | rw [zbo_t h12] | rw [zbo_f (Nat.not_le.mpr h12)])
set_option maxHeartbeats 4000000 in
set_option maxRecDepth 100000 in
theorem c_Mo_blows {G : zG} {n u : Nat} {ν : Nat → va_E} {s : Nat → Int32} {S : Nat → Nat → Nat} {mo : Nat} {pr fa : Nat → Nat} {sc ch : Int32} {rc : Nat} {ρ : Nat → Int32} (hi : iS S) {w t : Nat} (hw : w < S 0 1) (ht : t < 2 ^ 31) :
    zMet G 1 M_Mo_blows [.ref 88, .int (nI w), .int (nI t)] n u (pm ν s (mk S mo pr fa sc ch rc ρ)) n u (zE (some (.int (zbo (blB S w t = true)))) (pm ν s (mk S mo pr fa sc ch rc ρ))) := by
  refine z_start (lv := [.ref 88, .int (nI w), .int (nI t)]) K_Mo_blows rfl rfl (Nat.le_refl _) (Nat.le_refl _) (Nat.le_of_ble_eq_true rfl) rfl ?_
  have hi0 := hi.1
  have hi1 := hi.2.1
  have hw9 := hi.2.2.2.2.2 w
  refine z_il2 (pc' := 1) 0 rfl rfl ?_
  refine z_al0 (pc' := 2) 1 rfl rfl ?_
  refine z_il1 (pc' := 3) 2 rfl rfl ?_
  refine z_iconst (v := nI 2) (by decide) (pc' := 4) 3 rfl rfl ?_
  refine z_callV1 (pc' := 7) 4 rfl rfl k_Mo_71 (by first | exact pm_f | exact pm_1 | (rw [pm_o (by decide)]; assumption)) (c_Mo_blowing2 (by omega)) (by decide) (Nat.le_refl _) (Nat.le_refl _) rfl rfl (Nat.le_of_ble_eq_true rfl) ?_
  refine z_al0 (pc' := 8) 5 rfl rfl ?_
  refine z_il1 (pc' := 9) 6 rfl rfl ?_
  refine z_iconst (v := nI 3) (by decide) (pc' := 10) 7 rfl rfl ?_
  refine z_callV1 (pc' := 13) 8 rfl rfl k_Mo_71 (by first | exact pm_f | exact pm_1 | (rw [pm_o (by decide)]; assumption)) (c_Mo_blowing3 (by omega)) (by decide) (Nat.le_refl _) (Nat.le_refl _) rfl rfl (Nat.le_of_ble_eq_true rfl) ?_
  refine z_callS1 (pc' := 16) 9 rfl rfl k_Mo_67 (c_Mo_in _ _ _) (by decide) (Nat.le_refl _) (Nat.le_refl _) rfl rfl (Nat.le_of_ble_eq_true rfl) ?_
  exact z_ireturn 10 rfl rfl (by first | rfl | exact zbo_nar) rfl rfl (by refine ⟨?_, rfl⟩; rw [zbo_c (show _ ↔ (blB S w t = true) from by rw [blB_iff, nI_leI (by omega) (by omega), nI_leI (by omega) (by omega)]; unfold bl; omega)])
set_option maxHeartbeats 4000000 in
set_option maxRecDepth 100000 in
theorem c_Mo_turnOf {G : zG} {n u : Nat} {ν : Nat → va_E} {s : Nat → Int32} {S : Nat → Nat → Nat} {mo : Nat} {pr fa : Nat → Nat} {sc ch : Int32} {rc : Nat} {ρ : Nat → Int32} (hi : iS S) {g w : Nat} (hg : g < 6) (hw : w < 6) :
    zMet G 1 M_Mo_turnOf [.ref 88, .int (nI g), .int (nI w)] n u (pm ν s (mk S mo pr fa sc ch rc ρ)) n u (zE (some (.int (nI (tn (S 4 w) (S 2 g))))) (pm ν s (mk S mo pr fa sc ch rc ρ))) := by
  refine z_start (lv := [.ref 88, .int (nI g), .int (nI w)]) K_Mo_turnOf rfl rfl (Nat.le_refl _) (Nat.le_refl _) (Nat.le_of_ble_eq_true rfl) rfl ?_
  have hw9 := hi.2.2.2.2.2 w
  have hg9 := hi.2.2.2.2.2 g
  refine z_al0 (pc' := 1) 0 rfl rfl ?_
  refine z_il1 (pc' := 2) 1 rfl rfl ?_
  refine z_iconst (v := nI 1) (by decide) (pc' := 3) 2 rfl rfl ?_
  refine z_callV1 (pc' := 6) 3 rfl rfl k_Mo_75 (by first | exact pm_f | exact pm_1 | (rw [pm_o (by decide)]; assumption)) (c_Mo_of1 hg) (by decide) (Nat.le_refl _) (Nat.le_refl _) rfl rfl (Nat.le_of_ble_eq_true rfl) ?_
  refine z_al0 (pc' := 7) 4 rfl rfl ?_
  refine z_il2 (pc' := 8) 5 rfl rfl ?_
  refine z_iconst (v := nI 0) (by decide) (pc' := 9) 6 rfl rfl ?_
  refine z_callV1 (pc' := 12) 7 rfl rfl k_Mo_71 (by first | exact pm_f | exact pm_1 | (rw [pm_o (by decide)]; assumption)) (c_Mo_blowing0 hw) (by decide) (Nat.le_refl _) (Nat.le_refl _) rfl rfl (Nat.le_of_ble_eq_true rfl) ?_
  refine z_callS1 (pc' := 15) 8 rfl rfl k_Mo_78 (c_Mo_apart (by omega) (by omega)) (by decide) (Nat.le_refl _) (Nat.le_refl _) rfl rfl (Nat.le_of_ble_eq_true rfl) ?_
  exact z_ireturn 9 rfl rfl (by first | rfl | exact zbo_nar) rfl rfl (by exact ⟨rfl, rfl⟩)
set_option maxHeartbeats 4000000 in
set_option maxRecDepth 100000 in
theorem c_Mo_gainOf {G : zG} {n u : Nat} {ν : Nat → va_E} {s : Nat → Int32} {S : Nat → Nat → Nat} {mo : Nat} {pr fa : Nat → Nat} {sc ch : Int32} {rc : Nat} {ρ : Nat → Int32} (hi : iS S) {g w t : Nat} (hg : g < 6) (hw : w < 6) (ht : t ≤ 16) :
    zMet G 2 M_Mo_gainOf [.ref 88, .int (nI g), .int (nI w), .int (nI t)] n u (pm ν s (mk S mo pr fa sc ch rc ρ)) n u (zE (some (.int (nI (gS S g w t)))) (pm ν s (mk S mo pr fa sc ch rc ρ))) := by
  refine z_start (lv := [.ref 88, .int (nI g), .int (nI w), .int (nI t)]) K_Mo_gainOf rfl rfl (Nat.le_refl _) (Nat.le_refl _) (Nat.le_of_ble_eq_true rfl) rfl ?_
  have hw9 := hi.2.2.2.2.2 w
  have hg9 := hi.2.2.2.2.2 g
  refine z_al0 (pc' := 1) 0 rfl rfl ?_
  refine z_il1 (pc' := 2) 1 rfl rfl ?_
  refine z_iconst (v := nI 0) (by decide) (pc' := 3) 2 rfl rfl ?_
  refine z_callV1 (pc' := 6) 3 rfl rfl k_Mo_75 (by first | exact pm_f | exact pm_1 | (rw [pm_o (by decide)]; assumption)) (c_Mo_of0 hg) (by decide) (Nat.le_refl _) (Nat.le_refl _) rfl rfl (Nat.le_of_ble_eq_true rfl) ?_
  refine z_al0 (pc' := 7) 4 rfl rfl ?_
  refine z_il1 (pc' := 8) 5 rfl rfl ?_
  refine z_il2 (pc' := 9) 6 rfl rfl ?_
  refine z_callV1 (pc' := 12) 7 rfl rfl k_Mo_81 (by first | exact pm_f | exact pm_1 | (rw [pm_o (by decide)]; assumption)) (c_Mo_turnOf hi hg hw) (by decide) (Nat.le_refl _) (Nat.le_refl _) rfl rfl (Nat.le_of_ble_eq_true rfl) ?_
  refine z_al0 (pc' := 13) 8 rfl rfl ?_
  refine z_il2 (pc' := 14) 9 rfl rfl ?_
  refine z_iconst (v := nI 1) (by decide) (pc' := 15) 10 rfl rfl ?_
  refine z_callV1 (pc' := 18) 11 rfl rfl k_Mo_71 (by first | exact pm_f | exact pm_1 | (rw [pm_o (by decide)]; assumption)) (c_Mo_blowing1 hw) (by decide) (Nat.le_refl _) (Nat.le_refl _) rfl rfl (Nat.le_of_ble_eq_true rfl) ?_
  refine z_il3 (pc' := 19) 12 rfl rfl ?_
  refine z_callS1 (pc' := 22) 13 rfl rfl k_Mo_84 (c_Mo_gains (by omega) (by omega) (tn_le (by omega) (by omega)) (by omega)) (by decide) (Nat.le_refl _) (Nat.le_refl _) rfl rfl (Nat.le_of_ble_eq_true rfl) ?_
  exact z_ireturn 14 rfl rfl (by first | rfl | exact zbo_nar) rfl rfl (by exact ⟨rfl, rfl⟩)
set_option maxHeartbeats 4000000 in
set_option maxRecDepth 100000 in
theorem c_Mo_gets {G : zG} {n u : Nat} {ν : Nat → va_E} {s : Nat → Int32} {S : Nat → Nat → Nat} {mo : Nat} {pr fa : Nat → Nat} {sc ch : Int32} {rc : Nat} {ρ : Nat → Int32} {g w : Nat} (hg : g < 6) :
    zMet G 1 M_Mo_gets [.ref 88, .int (nI g), .int (hasI w)] n u (pm ν s (mk S mo pr fa sc ch rc ρ)) n u (zE none (pm ν s (mk S mo (un pr g w) (un fa g (S 3 g)) sc ch rc ρ))) := by
  refine z_start (lv := [.ref 88, .int (nI g), .int (hasI w)]) K_Mo_gets rfl rfl (Nat.le_refl _) (Nat.le_refl _) (Nat.le_of_ble_eq_true rfl) rfl ?_
  refine z_al0 (pc' := 1) 0 rfl rfl ?_
  refine z_il1 (pc' := 2) 1 rfl rfl ?_
  refine z_iconst (v := nI 3) (by decide) (pc' := 3) 2 rfl rfl ?_
  refine z_il2 (pc' := 4) 3 rfl rfl ?_
  refine z_callV0 (pc' := 7) 4 rfl rfl k_Mo_88 (by first | exact pm_f | exact pm_1 | (rw [pm_o (by decide)]; assumption)) (c_Mo_put3 hg) (by decide) (Nat.le_refl _) (Nat.le_refl _) rfl rfl (Nat.le_of_ble_eq_true rfl) ?_
  refine z_al0 (pc' := 8) 5 rfl rfl ?_
  refine z_il1 (pc' := 9) 6 rfl rfl ?_
  refine z_iconst (v := nI 4) (by decide) (pc' := 10) 7 rfl rfl ?_
  refine z_al0 (pc' := 11) 8 rfl rfl ?_
  refine z_il1 (pc' := 12) 9 rfl rfl ?_
  refine z_iconst (v := nI 2) (by decide) (pc' := 13) 10 rfl rfl ?_
  refine z_callV1 (pc' := 16) 11 rfl rfl k_Mo_75 (by first | exact pm_f | exact pm_1 | (rw [pm_o (by decide)]; assumption)) (c_Mo_of2 hg) (by decide) (Nat.le_refl _) (Nat.le_refl _) rfl rfl (Nat.le_of_ble_eq_true rfl) ?_
  refine z_callV0 (pc' := 19) 12 rfl rfl k_Mo_88 (by first | exact pm_f | exact pm_1 | (rw [pm_o (by decide)]; assumption)) (c_Mo_put4 hg) (by decide) (Nat.le_refl _) (Nat.le_refl _) rfl rfl (Nat.le_of_ble_eq_true rfl) ?_
  exact z_return 13 rfl rfl rfl rfl (by exact ⟨rfl, rfl⟩)
set_option maxHeartbeats 4000000 in
set_option maxRecDepth 100000 in
theorem l_Mo_promisedTo {G : zG} {n u : Nat} {ν : Nat → va_E} {s : Nat → Int32} {S : Nat → Nat → Nat} {mo : Nat} {pr fa : Nat → Nat} {sc ch : Int32} {rc : Nat} {ρ : Nat → Int32} (hi : iS S) {w : Nat} (hw : w < 6) (hp : ∀ j, pr j ≤ 6) : ∀ j k, k + j = S 0 0 →
    zW G 1 M_Mo_promisedTo 4 [.ref 88, .int (nI w), .int (nI (brN pr w k)), .int (nI k)] [] n u (pm ν s (mk S mo pr fa sc ch rc ρ)) n u (zE (some (.int (nI (brN pr w (S 0 0))))) (pm ν s (mk S mo pr fa sc ch rc ρ)))
  | 0, k, e => by
    have hi0 := hi.1
    have hi1 := hi.2.1
    have hpk := hp k
    obtain rfl : k = S 0 0 := by omega
    refine z_il3 (pc' := 5) 4 rfl rfl ?_
    refine z_al0 (pc' := 6) 5 rfl rfl ?_
    refine z_getf (pc' := 9) 6 rfl rfl f_Mo_9_12 (by first | exact pm_f | exact pm_1 | (rw [pm_o (by decide)]; assumption)) (by rfl) ?_
    refine z_iconst (v := nI 3) (by decide) (pc' := 10) 7 rfl rfl ?_
    refine z_iald (pc' := 11) 8 rfl rfl (by first | exact pm_f | exact pm_1 | (rw [pm_o (by decide)]; assumption)) (by omega) (by decide) ?_
    rw [mk_3]
    first | refine z_icmp_geN (pc' := 14) 9 rfl rfl (tgt := 40) rfl (by omega) (by omega) (fun h11 => ?_) (fun h11 => ?_) | refine z_icmp_ge (pc' := 14) 9 rfl rfl (tgt := 40) rfl (fun h11 => ?_) (fun h11 => ?_)
    · refine z_il2 (pc' := 41) 26 rfl rfl ?_
      exact z_ireturn 27 rfl rfl (by first | rfl | exact zbo_nar) rfl rfl (by exact ⟨rfl, rfl⟩)
    · exfalso; omega
  | j + 1, k, e => by
    have hi0 := hi.1
    have hi1 := hi.2.1
    have hpk := hp k
    refine z_il3 (pc' := 5) 4 rfl rfl ?_
    refine z_al0 (pc' := 6) 5 rfl rfl ?_
    refine z_getf (pc' := 9) 6 rfl rfl f_Mo_9_12 (by first | exact pm_f | exact pm_1 | (rw [pm_o (by decide)]; assumption)) (by rfl) ?_
    refine z_iconst (v := nI 3) (by decide) (pc' := 10) 7 rfl rfl ?_
    refine z_iald (pc' := 11) 8 rfl rfl (by first | exact pm_f | exact pm_1 | (rw [pm_o (by decide)]; assumption)) (by omega) (by decide) ?_
    rw [mk_3]
    first | refine z_icmp_geN (pc' := 14) 9 rfl rfl (tgt := 40) rfl (by omega) (by omega) (fun h11 => ?_) (fun h11 => ?_) | refine z_icmp_ge (pc' := 14) 9 rfl rfl (tgt := 40) rfl (fun h11 => ?_) (fun h11 => ?_)
    · exfalso; omega
    · refine z_il2 (pc' := 15) 10 rfl rfl ?_
      refine z_al0 (pc' := 16) 11 rfl rfl ?_
      refine z_il3 (pc' := 17) 12 rfl rfl ?_
      refine z_iconst (v := nI 3) (by decide) (pc' := 18) 13 rfl rfl ?_
      refine z_callV1 (pc' := 21) 14 rfl rfl k_Mo_75 (by first | exact pm_f | exact pm_1 | (rw [pm_o (by decide)]; assumption)) (c_Mo_of3 (by omega)) (by decide) (Nat.le_refl _) (Nat.le_refl _) rfl rfl (Nat.le_of_ble_eq_true rfl) ?_
      refine z_il1 (pc' := 22) 15 rfl rfl ?_
      first | refine z_icmp_neH (pc' := 25) 16 rfl rfl (tgt := 31) rfl (by omega) (by omega) (fun h22 => ?_) (fun h22 => ?_) | refine z_icmp_neN (pc' := 25) 16 rfl rfl (tgt := 31) rfl (by omega) (by omega) (fun h22 => ?_) (fun h22 => ?_) | refine z_icmp_ne (pc' := 25) 16 rfl rfl (tgt := 31) rfl (fun h22 => ?_) (fun h22 => ?_)
      · refine z_iconst (v := nI 0) (by decide) (pc' := 32) 21 rfl rfl ?_
        refine z_ior (pc' := 33) 22 rfl rfl ?_
        rw [nb_or, show brN pr w k ||| 0 = brN pr w (k + 1) from by rw [brN, if_neg h22, Nat.or_zero]]
        refine z_is2 rfl rfl (pc' := 34) 23 rfl rfl ?_
        first | refine z_inc3N rfl rfl (pc' := 37) 24 rfl rfl ?_ | refine z_inc3 rfl rfl rfl (pc' := 37) 24 rfl rfl ?_
        refine z_goto 25 rfl (tgt := 4) rfl ?_
        exact l_Mo_promisedTo hi hw hp j (k + 1) (by omega)
      · refine z_iconst (v := nI 1) (by decide) (pc' := 26) 17 rfl rfl ?_
        refine z_il3 (pc' := 27) 18 rfl rfl ?_
        refine z_ishl (pc' := 28) 19 rfl rfl ?_
        rw [nb_shl1 (by omega)]
        refine z_goto 20 rfl (tgt := 32) rfl ?_
        refine z_ior (pc' := 33) 22 rfl rfl ?_
        rw [nb_or, show brN pr w k ||| 2 ^ k = brN pr w (k + 1) from by rw [brN, if_pos h22]]
        refine z_is2 rfl rfl (pc' := 34) 23 rfl rfl ?_
        first | refine z_inc3N rfl rfl (pc' := 37) 24 rfl rfl ?_ | refine z_inc3 rfl rfl rfl (pc' := 37) 24 rfl rfl ?_
        refine z_goto 25 rfl (tgt := 4) rfl ?_
        exact l_Mo_promisedTo hi hw hp j (k + 1) (by omega)
set_option maxHeartbeats 4000000 in
set_option maxRecDepth 100000 in
theorem c_Mo_promisedTo {G : zG} {n u : Nat} {ν : Nat → va_E} {s : Nat → Int32} {S : Nat → Nat → Nat} {mo : Nat} {pr fa : Nat → Nat} {sc ch : Int32} {rc : Nat} {ρ : Nat → Int32} (hi : iS S) {w : Nat} (hw : w < 6) (hp : ∀ j, pr j ≤ 6) :
    zMet G 1 M_Mo_promisedTo [.ref 88, .int (nI w)] n u (pm ν s (mk S mo pr fa sc ch rc ρ)) n u (zE (some (.int (nI (brN pr w (S 0 0))))) (pm ν s (mk S mo pr fa sc ch rc ρ))) := by
  refine z_start (lv := [.ref 88, .int (nI w), .retAddr 0, .retAddr 0]) K_Mo_promisedTo rfl rfl (Nat.le_refl _) (Nat.le_refl _) (Nat.le_of_ble_eq_true rfl) rfl ?_
  refine z_iconst (v := nI 0) (by decide) (pc' := 1) 0 rfl rfl ?_
  refine z_is2 rfl rfl (pc' := 2) 1 rfl rfl ?_
  refine z_iconst (v := nI 0) (by decide) (pc' := 3) 2 rfl rfl ?_
  refine z_is3 rfl rfl (pc' := 4) 3 rfl rfl ?_
  exact l_Mo_promisedTo hi hw hp (S 0 0) 0 (by omega)
set_option maxHeartbeats 4000000 in
set_option maxRecDepth 100000 in
theorem l_Mo_promised {G : zG} {n u : Nat} {ν : Nat → va_E} {s : Nat → Int32} {S : Nat → Nat → Nat} {mo : Nat} {pr fa : Nat → Nat} {sc ch : Int32} {rc : Nat} {ρ : Nat → Int32} (hi : iS S) (hp : ∀ j, pr j ≤ 6) : ∀ j k, k + j = S 0 0 →
    zW G 1 M_Mo_promised 4 [.ref 88, .int (nI (psN pr k)), .int (nI k)] [] n u (pm ν s (mk S mo pr fa sc ch rc ρ)) n u (zE (some (.int (nI (psN pr (S 0 0))))) (pm ν s (mk S mo pr fa sc ch rc ρ)))
  | 0, k, e => by
    have hi0 := hi.1
    have hi1 := hi.2.1
    have hpk := hp k
    obtain rfl : k = S 0 0 := by omega
    refine z_il2 (pc' := 5) 4 rfl rfl ?_
    refine z_al0 (pc' := 6) 5 rfl rfl ?_
    refine z_getf (pc' := 9) 6 rfl rfl f_Mo_9_12 (by first | exact pm_f | exact pm_1 | (rw [pm_o (by decide)]; assumption)) (by rfl) ?_
    refine z_iconst (v := nI 3) (by decide) (pc' := 10) 7 rfl rfl ?_
    refine z_iald (pc' := 11) 8 rfl rfl (by first | exact pm_f | exact pm_1 | (rw [pm_o (by decide)]; assumption)) (by omega) (by decide) ?_
    rw [mk_3]
    first | refine z_icmp_geN (pc' := 14) 9 rfl rfl (tgt := 39) rfl (by omega) (by omega) (fun h11 => ?_) (fun h11 => ?_) | refine z_icmp_ge (pc' := 14) 9 rfl rfl (tgt := 39) rfl (fun h11 => ?_) (fun h11 => ?_)
    · refine z_il1 (pc' := 40) 25 rfl rfl ?_
      exact z_ireturn 26 rfl rfl (by first | rfl | exact zbo_nar) rfl rfl (by exact ⟨rfl, rfl⟩)
    · exfalso; omega
  | j + 1, k, e => by
    have hi0 := hi.1
    have hi1 := hi.2.1
    have hpk := hp k
    refine z_il2 (pc' := 5) 4 rfl rfl ?_
    refine z_al0 (pc' := 6) 5 rfl rfl ?_
    refine z_getf (pc' := 9) 6 rfl rfl f_Mo_9_12 (by first | exact pm_f | exact pm_1 | (rw [pm_o (by decide)]; assumption)) (by rfl) ?_
    refine z_iconst (v := nI 3) (by decide) (pc' := 10) 7 rfl rfl ?_
    refine z_iald (pc' := 11) 8 rfl rfl (by first | exact pm_f | exact pm_1 | (rw [pm_o (by decide)]; assumption)) (by omega) (by decide) ?_
    rw [mk_3]
    first | refine z_icmp_geN (pc' := 14) 9 rfl rfl (tgt := 39) rfl (by omega) (by omega) (fun h11 => ?_) (fun h11 => ?_) | refine z_icmp_ge (pc' := 14) 9 rfl rfl (tgt := 39) rfl (fun h11 => ?_) (fun h11 => ?_)
    · exfalso; omega
    · refine z_il1 (pc' := 15) 10 rfl rfl ?_
      refine z_al0 (pc' := 16) 11 rfl rfl ?_
      refine z_il2 (pc' := 17) 12 rfl rfl ?_
      refine z_iconst (v := nI 3) (by decide) (pc' := 18) 13 rfl rfl ?_
      refine z_callV1 (pc' := 21) 14 rfl rfl k_Mo_75 (by first | exact pm_f | exact pm_1 | (rw [pm_o (by decide)]; assumption)) (c_Mo_of3 (by omega)) (by decide) (Nat.le_refl _) (Nat.le_refl _) rfl rfl (Nat.le_of_ble_eq_true rfl) ?_
      first | refine z_if_ltH (pc' := 24) 15 rfl rfl (tgt := 30) rfl (by omega) (fun h21 => ?_) (fun h21 => ?_) | refine z_if_ltN (pc' := 24) 15 rfl rfl (tgt := 30) rfl (by omega) (fun h21 => ?_) (fun h21 => ?_) | refine z_if_lt (pc' := 24) 15 rfl rfl (tgt := 30) rfl (fun h21 => ?_) (fun h21 => ?_)
      · refine z_iconst (v := nI 0) (by decide) (pc' := 31) 20 rfl rfl ?_
        refine z_ior (pc' := 32) 21 rfl rfl ?_
        rw [nb_or, show psN pr k ||| 0 = psN pr (k + 1) from by rw [psN, if_pos h21, Nat.or_zero]]
        refine z_is1 rfl rfl (pc' := 33) 22 rfl rfl ?_
        first | refine z_inc2N rfl rfl (pc' := 36) 23 rfl rfl ?_ | refine z_inc2 rfl rfl rfl (pc' := 36) 23 rfl rfl ?_
        refine z_goto 24 rfl (tgt := 4) rfl ?_
        exact l_Mo_promised hi hp j (k + 1) (by omega)
      · refine z_iconst (v := nI 1) (by decide) (pc' := 25) 16 rfl rfl ?_
        refine z_il2 (pc' := 26) 17 rfl rfl ?_
        refine z_ishl (pc' := 27) 18 rfl rfl ?_
        rw [nb_shl1 (by omega)]
        refine z_goto 19 rfl (tgt := 31) rfl ?_
        refine z_ior (pc' := 32) 21 rfl rfl ?_
        rw [nb_or, show psN pr k ||| 2 ^ k = psN pr (k + 1) from by rw [psN, if_neg h21]]
        refine z_is1 rfl rfl (pc' := 33) 22 rfl rfl ?_
        first | refine z_inc2N rfl rfl (pc' := 36) 23 rfl rfl ?_ | refine z_inc2 rfl rfl rfl (pc' := 36) 23 rfl rfl ?_
        refine z_goto 24 rfl (tgt := 4) rfl ?_
        exact l_Mo_promised hi hp j (k + 1) (by omega)
set_option maxHeartbeats 4000000 in
set_option maxRecDepth 100000 in
theorem c_Mo_promised {G : zG} {n u : Nat} {ν : Nat → va_E} {s : Nat → Int32} {S : Nat → Nat → Nat} {mo : Nat} {pr fa : Nat → Nat} {sc ch : Int32} {rc : Nat} {ρ : Nat → Int32} (hi : iS S) (hp : ∀ j, pr j ≤ 6) :
    zMet G 1 M_Mo_promised [.ref 88] n u (pm ν s (mk S mo pr fa sc ch rc ρ)) n u (zE (some (.int (nI (psN pr (S 0 0))))) (pm ν s (mk S mo pr fa sc ch rc ρ))) := by
  refine z_start (lv := [.ref 88, .retAddr 0, .retAddr 0]) K_Mo_promised rfl rfl (Nat.le_refl _) (Nat.le_refl _) (Nat.le_of_ble_eq_true rfl) rfl ?_
  refine z_iconst (v := nI 0) (by decide) (pc' := 1) 0 rfl rfl ?_
  refine z_is1 rfl rfl (pc' := 2) 1 rfl rfl ?_
  refine z_iconst (v := nI 0) (by decide) (pc' := 3) 2 rfl rfl ?_
  refine z_is2 rfl rfl (pc' := 4) 3 rfl rfl ?_
  exact l_Mo_promised hi hp (S 0 0) 0 (by omega)
set_option maxHeartbeats 4000000 in
set_option maxRecDepth 100000 in
theorem c_Mo_isCalmFor {G : zG} {n u : Nat} {ν : Nat → va_E} {s : Nat → Int32} {S : Nat → Nat → Nat} {mo : Nat} {pr fa : Nat → Nat} {sc ch : Int32} {rc : Nat} {ρ : Nat → Int32} (hi : iS S) {g : Nat} (hg : g < 6) (hm : mo ≤ 16) (hp : pr g < S 0 1 ∨ pr g = 6) :
    zMet G 2 M_Mo_isCalmFor [.ref 88, .int (nI g)] n u (pm ν s (mk S mo pr fa sc ch rc ρ)) n u (zE (some (.int (zbo (¬ blB S (pr g) mo = true)))) (pm ν s (mk S mo pr fa sc ch rc ρ))) := by
  refine z_start (lv := [.ref 88, .int (nI g)]) K_Mo_isCalmFor rfl rfl (Nat.le_refl _) (Nat.le_refl _) (Nat.le_of_ble_eq_true rfl) rfl ?_
  have hi0 := hi.1
  have hi1 := hi.2.1
  refine z_al0 (pc' := 1) 0 rfl rfl ?_
  refine z_il1 (pc' := 2) 1 rfl rfl ?_
  refine z_iconst (v := nI 3) (by decide) (pc' := 3) 2 rfl rfl ?_
  refine z_callV1 (pc' := 6) 3 rfl rfl k_Mo_75 (by first | exact pm_f | exact pm_1 | (rw [pm_o (by decide)]; assumption)) (c_Mo_of3 hg) (by decide) (Nat.le_refl _) (Nat.le_refl _) rfl rfl (Nat.le_of_ble_eq_true rfl) ?_
  first | refine z_if_ltH (pc' := 9) 4 rfl rfl (tgt := 28) rfl (by omega) (fun h6 => ?_) (fun h6 => ?_) | refine z_if_ltN (pc' := 9) 4 rfl rfl (tgt := 28) rfl (by omega) (fun h6 => ?_) (fun h6 => ?_) | refine z_if_lt (pc' := 9) 4 rfl rfl (tgt := 28) rfl (fun h6 => ?_) (fun h6 => ?_)
  · refine z_iconst (v := nI 1) (by decide) (pc' := 29) 16 rfl rfl ?_
    refine z_goto 17 rfl (tgt := 33) rfl ?_
    exact z_ireturn 19 rfl rfl (by first | rfl | exact zbo_nar) rfl rfl (by refine ⟨?_, rfl⟩; rw [zbo_t (c := ¬ blB S (pr g) mo = true) (fun z => by have := (blB_iff.mp z).1; omega)])
  · refine z_al0 (pc' := 10) 5 rfl rfl ?_
    refine z_al0 (pc' := 11) 6 rfl rfl ?_
    refine z_il1 (pc' := 12) 7 rfl rfl ?_
    refine z_iconst (v := nI 3) (by decide) (pc' := 13) 8 rfl rfl ?_
    refine z_callV1 (pc' := 16) 9 rfl rfl k_Mo_75 (by first | exact pm_f | exact pm_1 | (rw [pm_o (by decide)]; assumption)) (c_Mo_of3 hg) (by decide) (Nat.le_refl _) (Nat.le_refl _) rfl rfl (Nat.le_of_ble_eq_true rfl) ?_
    rw [hasI_n h6]
    refine z_al0 (pc' := 17) 10 rfl rfl ?_
    refine z_getf (pc' := 20) 11 rfl rfl f_Mo_9_12 (by first | exact pm_f | exact pm_1 | (rw [pm_o (by decide)]; assumption)) (by rfl) ?_
    refine z_iconst (v := nI 1) (by decide) (pc' := 21) 12 rfl rfl ?_
    refine z_iald (pc' := 22) 13 rfl rfl (by first | exact pm_f | exact pm_1 | (rw [pm_o (by decide)]; assumption)) (by omega) (by decide) ?_
    rw [mk_1]
    refine z_callV1 (pc' := 25) 14 rfl rfl k_Mo_112 (by first | exact pm_f | exact pm_1 | (rw [pm_o (by decide)]; assumption)) (c_Mo_blows hi (by omega) (by omega)) (by decide) (Nat.le_refl _) (Nat.le_refl _) rfl rfl (Nat.le_of_ble_eq_true rfl) ?_
    first | refine z_if_neB (pc' := 28) 15 rfl rfl (tgt := 32) rfl (fun h25 => ?_) (fun h25 => ?_) | refine z_if_neN (pc' := 28) 15 rfl rfl (tgt := 32) rfl (by omega) (fun h25 => ?_) (fun h25 => ?_) | refine z_if_ne (pc' := 28) 15 rfl rfl (tgt := 32) rfl (fun h25 => ?_) (fun h25 => ?_)
    · refine z_iconst (v := nI 0) (by decide) (pc' := 33) 18 rfl rfl ?_
      exact z_ireturn 19 rfl rfl (by first | rfl | exact zbo_nar) rfl rfl (by refine ⟨?_, rfl⟩; rw [zbo_f (c := ¬ blB S (pr g) mo = true) (fun z => z h25)])
    · refine z_iconst (v := nI 1) (by decide) (pc' := 29) 16 rfl rfl ?_
      refine z_goto 17 rfl (tgt := 33) rfl ?_
      exact z_ireturn 19 rfl rfl (by first | rfl | exact zbo_nar) rfl rfl (by refine ⟨?_, rfl⟩; rw [zbo_t (c := ¬ blB S (pr g) mo = true) h25])
