/-! ===== all rules ===== -/
def rlR (tc : Nat → Nat) (F : Nat) : Nat → Nat → zRu → Option (Nat × Bool × zRu)
  | 0, j, L => some (j, true, L)
  | k + 1, j, L => if tc j = 25 then some (j, true, L) else (ruR tc F j).bind (fun R => if R.2.1 = true then rlR tc F k R.1 (aR L R.2.2) else some (R.1, false, aR L R.2.2))
theorem ruR_add {tc : Nat → Nat} {F j : Nat} {R : zR1} (h : ruR tc F j = some R) (k : Nat) : ruR tc (F + k) j = some R := by
  unfold ruR at h ⊢
  split at h
  · rename_i q
    rw [if_pos q]
    split at h
    · rename_i q2
      rw [if_pos q2]
      obtain ⟨r, h1, h2⟩ := Option.bind_eq_some_iff.mp h
      rw [pP_add (by decide) h1 k]
      exact h2
    · rename_i q2
      rw [if_neg q2]
      exact h
  · rename_i q
    rw [if_neg q]
    exact h
theorem rlR_add {tc : Nat → Nat} {F : Nat} (m : Nat) : ∀ k j L R, rlR tc F k j L = some R → rlR tc (F + m) k j L = some R
  | 0, _, _, _, h => h
  | k + 1, j, L, R, h => by
    unfold rlR at h ⊢
    split at h
    · rename_i q
      rw [if_pos q]; exact h
    · rename_i q
      rw [if_neg q]
      obtain ⟨r, h1, h2⟩ := Option.bind_eq_some_iff.mp h
      rw [ruR_add h1 m]
      show (if r.2.1 = true then _ else _) = _
      split at h2
      · rename_i w; rw [if_pos w]; exact rlR_add m k _ _ R h2
      · rename_i w; rw [if_neg w]; exact h2
theorem endR_le {tc : Nat → Nat} {N kd j : Nat} {ic im : zI} (h : iTk tc N) (hj : j ≤ N) : (endR tc kd j ic im).1 ≤ N ∧ j ≤ (endR tc kd j ic im).1 := by
  have hN : ∀ i, tc i = 18 ∨ (6 ≤ tc i ∧ tc i ≤ 8) → i ≠ N := fun i q z => by rw [z, h.2.1] at q; omega
  unfold endR
  split
  · rename_i q
    have a1 := hN _ (Or.inr q)
    split
    · rename_i q2
      have a2 := hN _ (Or.inl q2)
      exact ⟨by show j + 2 ≤ N; omega, by show j ≤ j + 2; omega⟩
    · exact ⟨by show j + 1 ≤ N; omega, by show j ≤ j + 1; omega⟩
  · exact ⟨hj, Nat.le_refl _⟩
theorem ruR_T {tc : Nat → Nat} {N j : Nat} (h : iTk tc N) (hj : j ≤ N) : ∃ F R, ruR tc F j = some R := by
  by_cases q : tc j ≤ 5
  · by_cases q2 : tc (j + 1) = 9
    · have a1 : j ≠ N := fun z => by rw [z, h.2.1] at q; omega
      have a2 : j + 1 ≠ N := fun z => by rw [z, h.2.1] at q2; omega
      obtain ⟨F, r, h1⟩ := pT h 3 (j + 2) (by omega)
      exact ⟨F, _, by rw [ruR, if_pos q, if_pos q2, h1]; rfl⟩
    · exact ⟨0, _, by rw [ruR, if_pos q, if_neg q2]⟩
  · exact ⟨0, _, by rw [ruR, if_neg q]⟩
theorem ruR_le {tc : Nat → Nat} {N F j : Nat} {R : zR1} (h : iTk tc N) (hj : j ≤ N) (hp : ruR tc F j = some R) : R.1 ≤ N := by
  unfold ruR at hp
  split at hp
  · rename_i q
    have a1 : j ≠ N := fun z => by rw [z, h.2.1] at q; omega
    split at hp
    · rename_i q2
      have a2 : j + 1 ≠ N := fun z => by rw [z, h.2.1] at q2; omega
      obtain ⟨r, h1, h2⟩ := Option.bind_eq_some_iff.mp hp
      obtain ⟨⟨g1, -⟩, -⟩ := (pP_pg h F 3 _ _ _ _ r (by decide) (by omega) h1).1 (by decide)
      cases h2
      split
      · exact (endR_le h g1).1
      · exact g1
    · cases hp
      exact (endR_le h (by omega)).1
  · cases hp
    exact hj
theorem rlR_T {tc : Nat → Nat} {N : Nat} (h : iTk tc N) : ∀ k j L, j ≤ N → ∃ F R, rlR tc F k j L = some R
  | 0, j, L, _ => ⟨0, _, rfl⟩
  | k + 1, j, L, hj => by
    by_cases q : tc j = 25
    · exact ⟨0, _, by rw [rlR, if_pos q]⟩
    · obtain ⟨F1, r, h1⟩ := ruR_T h hj
      by_cases w : r.2.1 = true
      · obtain ⟨F2, R, h2⟩ := rlR_T h k r.1 (aR L r.2.2) (ruR_le h hj h1)
        refine ⟨F1 + F2, R, ?_⟩
        rw [rlR, if_neg q, ruR_add h1 F2]
        show (if r.2.1 = true then _ else _) = _
        rw [if_pos w, Nat.add_comm F1 F2]
        exact rlR_add F1 k _ _ R h2
      · refine ⟨F1, (r.1, false, aR L r.2.2), ?_⟩
        rw [rlR, if_neg q, h1]
        show (if r.2.1 = true then _ else _) = _
        rw [if_neg w]
/-- what rules() answers -/
def ruA (tc tp : Nat → Nat) (R : Nat × Bool × zRu) : Int32 := if R.2.1 = true ∧ tc R.1 = 25 then nI R.2.2.length else -100 - nI (tp R.1)
def riP (ν : Nat → va_E) (ln : Nat) (tc tp : Nat → Nat) (R : Nat × Bool × zRu) : zP := fun r μ' => ∃ (c z j : Nat) (kd de bg c4 : Nat → Nat), r = some (.int (ruA tc tp R)) ∧ μ' = (MT ν ln (nI c) (fun i => nI (kd i)) (fun i => nI (de i)) (fun i => nI (bg i)) j z c4) ∧ z ≤ 200 ∧ c ≤ 8 ∧ j ≤ 200 ∧ (R.2.1 = true → bkL c z kd de bg c4 R.2.2) ∧ bg 0 = 0
set_option maxHeartbeats 4000000 in
set_option maxRecDepth 100000 in
theorem l_Ta_readEnd {G : zG} {n u : Nat} {ν : Nat → va_E} {ln : Nat} {tc tp : Nat → Nat} {N : Nat} (hT : iTk tc N) (h49 : ν 49 = .inl (0, 201, .inl (fun j => nI (tc j)))) (h50 : ν 50 = .inl (0, 201, .inl (fun j => nI (tp j)))) {R : Nat × Bool × zRu} {j c z : Nat} {kd de bg c4 : Nat → Nat} {x : Value} (ej : j = R.1) (hj : j ≤ N) (hz : z ≤ 200) (hc8 : c ≤ 8) (hb : R.2.1 = true → bkL c z kd de bg c4 R.2.2) (hbg : bg 0 = 0) : zW G 12 M_Ta_readInto 58 [.ref 47, .ref 51, .int (bI R.2.1), x] [] n u (MT ν ln (nI c) (fun i => nI (kd i)) (fun i => nI (de i)) (fun i => nI (bg i)) j z c4) n u (riP ν ln tc tp R) := by
  have hN := hT.1
  have htb := (hT.2.2 j).1
  refine z_il2 (pc' := 59) 32 rfl rfl ?_
  first | refine z_if_eqB (pc' := 62) 33 rfl rfl (tgt := 83) rfl (fun h59 => ?_) (fun h59 => ?_) | refine z_if_eqN (pc' := 62) 33 rfl rfl (tgt := 83) rfl (by omega) (fun h59 => ?_) (fun h59 => ?_) | refine z_if_eq (pc' := 62) 33 rfl rfl (tgt := 83) rfl (fun h59 => ?_) (fun h59 => ?_)
  · refine z_bipush (v := (-100)) (by decide) (pc' := 85) 44 rfl rfl ?_
    refine z_al0 (pc' := 86) 45 rfl rfl ?_
    refine z_getf (pc' := 89) 46 rfl rfl f_Ta_18_9 (by first | exact MT_47 | exact MT_51 | exact MT_52 | exact MT_53 | exact MT_54 | exact MT_55 | (rw [MT_o (by decide)]; assumption)) (by rfl) ?_
    refine z_al0 (pc' := 90) 47 rfl rfl ?_
    refine z_getf (pc' := 93) 48 rfl rfl f_Ta_28_9 (by first | exact MT_47 | exact MT_51 | exact MT_52 | exact MT_53 | exact MT_54 | exact MT_55 | (rw [MT_o (by decide)]; assumption)) (by rfl) ?_
    refine z_iald (pc' := 94) 49 rfl rfl (by first | exact MT_47 | exact MT_51 | exact MT_52 | exact MT_53 | exact MT_54 | exact MT_55 | (rw [MT_o (by decide)]; assumption)) (by omega) (by decide) ?_
    refine z_isub (pc' := 95) 50 rfl rfl ?_
    exact z_ireturn 51 rfl rfl (by first | rfl | exact zbo_nar) rfl rfl (by exact ⟨c, z, j, kd, de, bg, c4, by rw [ruA, if_neg (fun q => h59 q.1), ← ej], rfl, hz, hc8, by omega, fun q => absurd q h59, hbg⟩)
  · refine z_al0 (pc' := 63) 34 rfl rfl ?_
    refine z_getf (pc' := 66) 35 rfl rfl f_Ta_15_9 (by first | exact MT_47 | exact MT_51 | exact MT_52 | exact MT_53 | exact MT_54 | exact MT_55 | (rw [MT_o (by decide)]; assumption)) (by rfl) ?_
    refine z_al0 (pc' := 67) 36 rfl rfl ?_
    refine z_getf (pc' := 70) 37 rfl rfl f_Ta_28_9 (by first | exact MT_47 | exact MT_51 | exact MT_52 | exact MT_53 | exact MT_54 | exact MT_55 | (rw [MT_o (by decide)]; assumption)) (by rfl) ?_
    refine z_iald (pc' := 71) 38 rfl rfl (by first | exact MT_47 | exact MT_51 | exact MT_52 | exact MT_53 | exact MT_54 | exact MT_55 | (rw [MT_o (by decide)]; assumption)) (by omega) (by decide) ?_
    refine z_bipush (v := nI 25) (by decide) (pc' := 73) 39 rfl rfl ?_
    first | refine z_icmp_neN (pc' := 76) 40 rfl rfl (tgt := 83) rfl (by omega) (by omega) (fun h73 => ?_) (fun h73 => ?_) | refine z_icmp_ne (pc' := 76) 40 rfl rfl (tgt := 83) rfl (fun h73 => ?_) (fun h73 => ?_)
    · refine z_bipush (v := (-100)) (by decide) (pc' := 85) 44 rfl rfl ?_
      refine z_al0 (pc' := 86) 45 rfl rfl ?_
      refine z_getf (pc' := 89) 46 rfl rfl f_Ta_18_9 (by first | exact MT_47 | exact MT_51 | exact MT_52 | exact MT_53 | exact MT_54 | exact MT_55 | (rw [MT_o (by decide)]; assumption)) (by rfl) ?_
      refine z_al0 (pc' := 90) 47 rfl rfl ?_
      refine z_getf (pc' := 93) 48 rfl rfl f_Ta_28_9 (by first | exact MT_47 | exact MT_51 | exact MT_52 | exact MT_53 | exact MT_54 | exact MT_55 | (rw [MT_o (by decide)]; assumption)) (by rfl) ?_
      refine z_iald (pc' := 94) 49 rfl rfl (by first | exact MT_47 | exact MT_51 | exact MT_52 | exact MT_53 | exact MT_54 | exact MT_55 | (rw [MT_o (by decide)]; assumption)) (by omega) (by decide) ?_
      refine z_isub (pc' := 95) 50 rfl rfl ?_
      exact z_ireturn 51 rfl rfl (by first | rfl | exact zbo_nar) rfl rfl (by exact ⟨c, z, j, kd, de, bg, c4, by rw [ruA, if_neg (fun q => h73 (by rw [ej]; exact q.2)), ← ej], rfl, hz, hc8, by omega, hb, hbg⟩)
    · refine z_al1 (pc' := 77) 41 rfl rfl ?_
      refine z_getf (pc' := 80) 42 rfl rfl f_Ta_40_0 (by first | exact MT_47 | exact MT_51 | exact MT_52 | exact MT_53 | exact MT_54 | exact MT_55 | (rw [MT_o (by decide)]; assumption)) (by rfl) ?_
      refine z_goto 43 rfl (tgt := 95) rfl ?_
      exact z_ireturn 51 rfl rfl (by first | rfl | exact zbo_nar) rfl rfl (by exact ⟨c, z, j, kd, de, bg, c4, by rw [ruA, if_pos ⟨h59, by rw [← ej]; exact h73⟩, (hb h59).1], rfl, hz, hc8, by omega, hb, hbg⟩)
set_option maxHeartbeats 4000000 in
set_option maxRecDepth 100000 in
theorem l_Ta_readStop {G : zG} {n u r : Nat} {μ : Nat → va_E} {Φ : zP} (hr : r ≤ 8) (K : zW G 12 M_Ta_readInto 58 [.ref 47, .ref 51, .int (bI false), .int (nI r)] [] n u μ n u Φ) : zW G 12 M_Ta_readInto 22 [.ref 47, .ref 51, .int (bI false), .int (nI r)] [] n u μ n u Φ := by
  refine z_il3 (pc' := 23) 14 rfl rfl ?_
  refine z_bipush (v := nI 8) (by decide) (pc' := 25) 15 rfl rfl ?_
  first | refine z_icmp_geN (pc' := 28) 16 rfl rfl (tgt := 58) rfl (by omega) (by omega) (fun h25 => ?_) (fun h25 => ?_) | refine z_icmp_ge (pc' := 28) 16 rfl rfl (tgt := 58) rfl (fun h25 => ?_) (fun h25 => ?_)
  · exact K
  · refine z_il2 (pc' := 29) 17 rfl rfl ?_
    refine z_if_eq_t 18 rfl (tgt := 58) rfl (show bI false = 0 from rfl) ?_
    exact K
theorem aR_len {L : zRu} {o : Option (Nat × Nat × zI × zI)} : (aR L o).length ≤ L.length + 1 := by
  cases o with
  | none => exact Nat.le_succ _
  | some a => show (L ++ [a]).length ≤ _; rw [List.length_append]; exact Nat.le_refl _
set_option maxHeartbeats 4000000 in
set_option maxRecDepth 100000 in
theorem l_Ta_readInto {G : zG} {n u F : Nat} {ν : Nat → va_E} {ln : Nat} {tc tp : Nat → Nat} {N : Nat} (hT : iTk tc N) (h49 : ν 49 = .inl (0, 201, .inl (fun j => nI (tc j)))) (h50 : ν 50 = .inl (0, 201, .inl (fun j => nI (tp j)))) {R : Nat × Bool × zRu} : ∀ k j r c z (kd de bg c4 : Nat → Nat) (L : zRu), r + k = 8 → c ≤ r → j ≤ N → z ≤ j → bkL c z kd de bg c4 L → rlR tc F k j L = some R →
    zW G 12 M_Ta_readInto 22 [.ref 47, .ref 51, .int (bI true), .int (nI r)] [] n u (MT ν ln (nI c) (fun i => nI (kd i)) (fun i => nI (de i)) (fun i => nI (bg i)) j z c4) n u (riP ν ln tc tp R)
  | 0, j, r, c, z, kd, de, bg, c4, L, e, hc, hj, hz, hb, hp => by
    have hN := hT.1
    cases hp
    refine z_il3 (pc' := 23) 14 rfl rfl ?_
    refine z_bipush (v := nI 8) (by decide) (pc' := 25) 15 rfl rfl ?_
    first | refine z_icmp_geN (pc' := 28) 16 rfl rfl (tgt := 58) rfl (by omega) (by omega) (fun h25 => ?_) (fun h25 => ?_) | refine z_icmp_ge (pc' := 28) 16 rfl rfl (tgt := 58) rfl (fun h25 => ?_) (fun h25 => ?_)
    · exact l_Ta_readEnd (R := (j, true, L)) hT h49 h50 rfl hj (by omega) (by omega) (fun _ => hb) hb.2.1
    · exfalso; omega
  | k + 1, j, r, c, z, kd, de, bg, c4, L, e, hc, hj, hz, hb, hp => by
    have hN := hT.1
    have htb := (hT.2.2 j).1
    refine z_il3 (pc' := 23) 14 rfl rfl ?_
    refine z_bipush (v := nI 8) (by decide) (pc' := 25) 15 rfl rfl ?_
    first | refine z_icmp_geN (pc' := 28) 16 rfl rfl (tgt := 58) rfl (by omega) (by omega) (fun h25 => ?_) (fun h25 => ?_) | refine z_icmp_ge (pc' := 28) 16 rfl rfl (tgt := 58) rfl (fun h25 => ?_) (fun h25 => ?_)
    · exfalso; omega
    · refine z_il2 (pc' := 29) 17 rfl rfl ?_
      refine z_if_eq_f (pc' := 32) 18 rfl rfl (tgt := 58) rfl (by decide) ?_
      refine z_al0 (pc' := 33) 19 rfl rfl ?_
      refine z_getf (pc' := 36) 20 rfl rfl f_Ta_15_9 (by first | exact MT_47 | exact MT_51 | exact MT_52 | exact MT_53 | exact MT_54 | exact MT_55 | (rw [MT_o (by decide)]; assumption)) (by rfl) ?_
      refine z_al0 (pc' := 37) 21 rfl rfl ?_
      refine z_getf (pc' := 40) 22 rfl rfl f_Ta_28_9 (by first | exact MT_47 | exact MT_51 | exact MT_52 | exact MT_53 | exact MT_54 | exact MT_55 | (rw [MT_o (by decide)]; assumption)) (by rfl) ?_
      refine z_iald (pc' := 41) 23 rfl rfl (by first | exact MT_47 | exact MT_51 | exact MT_52 | exact MT_53 | exact MT_54 | exact MT_55 | (rw [MT_o (by decide)]; assumption)) (by omega) (by decide) ?_
      refine z_bipush (v := nI 25) (by decide) (pc' := 43) 24 rfl rfl ?_
      first | refine z_icmp_eqN (pc' := 46) 25 rfl rfl (tgt := 58) rfl (by omega) (by omega) (fun h43 => ?_) (fun h43 => ?_) | refine z_icmp_eq (pc' := 46) 25 rfl rfl (tgt := 58) rfl (fun h43 => ?_) (fun h43 => ?_)
      · rw [rlR, if_pos h43] at hp
        cases hp
        exact l_Ta_readEnd (R := (j, true, L)) hT h49 h50 rfl hj (by omega) (by omega) (fun _ => hb) hb.2.1
      · rw [rlR, if_neg h43] at hp
        obtain ⟨R1, h1, h2⟩ := Option.bind_eq_some_iff.mp hp
        have hR1 := ruR_le hT hj h1
        refine z_al0 (pc' := 47) 26 rfl rfl ?_
        refine z_al1 (pc' := 48) 27 rfl rfl ?_
        refine z_callV (pc' := 51) 28 rfl rfl k_Ta_36 (by first | exact MT_47 | exact MT_51 | exact MT_52 | exact MT_53 | exact MT_54 | exact MT_55 | (rw [MT_o (by decide)]; assumption)) (c_Ta_readRule hT h49 hj hz (by omega) hb h1) (by decide) (Nat.le_refl _) (Nat.le_refl _) rfl rfl (Nat.le_of_ble_eq_true rfl) (fun r48 μ48 h48 => ?_)
        obtain ⟨c9, z9, kd9, de9, bg9, c49, y0, y1, y2, y2c, y3, y9⟩ := h48
        subst y0; subst y1
        dsimp only [Option.toList_some, List.cons_append, List.nil_append]
        refine z_is2 rfl rfl (pc' := 52) 29 rfl rfl ?_
        first | refine z_inc3N rfl rfl (pc' := 55) 30 rfl rfl ?_ | refine z_inc3 rfl rfl rfl (pc' := 55) 30 rfl rfl ?_
        refine z_goto 31 rfl (tgt := 22) rfl ?_
        by_cases w : R1.2.1 = true
        · rw [if_pos w] at h2
          obtain ⟨y4, y5⟩ := y3 w
          rw [show zbo (R1.2.1 = true) = bI true by rw [zbo_t w]; rfl]
          exact l_Ta_readInto hT h49 h50 k R1.1 (r + 1) c9 z9 kd9 de9 bg9 c49 _ (by omega) (by have := y4.1; have hl := hb.1; have := aR_len (L := L) (o := R1.2.2); omega) hR1 y5 y4 h2
        · rw [if_neg w] at h2
          cases h2
          rw [show zbo (R1.2.1 = true) = bI false by rw [zbo_f w]; rfl]
          refine l_Ta_readStop (by omega) ?_
          exact l_Ta_readEnd (R := (R1.1, false, aR L R1.2.2)) hT h49 h50 rfl hR1 y2 y2c (fun q => absurd q Bool.false_ne_true) y9
