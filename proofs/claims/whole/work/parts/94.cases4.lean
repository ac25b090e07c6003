theorem cSt_keep {μ μ' : Nat → va_E} {κ κ' : zκ} {kf : Bool} {τ : zτ} {σ : zσ} {R : Nat} {rw : Nat → Int32} {b tk : Nat → Nat} {ln tc : Nat} {tr : Nat → Int32} {r : Option Value} {ac : Value} (h : cSt μ ((κ, κ', kf), τ, σ, (R, rw), (b, ln, tk), (tc, tr))) (h3a : isAc μ ac tc) (k : r = some (.int (nI 1)) ∧ isOb μ' (nI 1) ac ∧ cstA μ' 24 κ ∧ ∀ i, i ≠ 4 → (i < 24 ∨ 42 < i) → μ' i = μ i) : cSt μ' ((κ, κ, true), τ, σ, (R, rw), (b, ln, tk), (tc, tr)) ∧ ∀ i, 88 ≤ i → μ' i = μ i := by
  obtain ⟨h1, h2, -, h4, h5, h6, h7, h8, h9⟩ := h
  obtain ⟨-, k1, k2, hf⟩ := k
  exact ⟨⟨cst_fr h1 (fun i a1 a2 => hf i (by omega) (by omega)), k2, ⟨ac, k1, isAc_fr h3a (fun i a1 => hf i (by omega) (by omega))⟩, isTr_fr h4 (fun i a1 a2 => hf i (by omega) (by omega)), isPl_fr h5 (fun i a1 a2 => hf i (by omega) (by omega)), isSh_fr h6 (fun i a1 a2 => hf i (by omega) (by omega)), isHe_fr h7 (fun i a1 a2 => hf i (by omega) (by omega)), isTa_fr h8 (fun i a1 a2 => hf i (by omega) (by omega)), (hf 87 (by decide) (by decide)).trans h9⟩, fun i hi => hf i (by omega) (by omega)⟩
theorem mSt_keep {μ μ' : Nat → va_E} {κ κ' : zκ} {kf : Bool} {τ : zτ} {σ : zσ} {R : Nat} {rw : Nat → Int32} {b tk : Nat → Nat} {ln tc : Nat} {tr : Nat → Int32} {r : Option Value} {s : Nat → Int32} (h : mSs μ s ((κ, κ', kf), τ, σ, (R, rw), (b, ln, tk), (tc, tr))) (k : r = some (.int (nI 1)) ∧ ∃ s' : Nat → Int32, (s' 5 = s 5 ∧ s' 23 = s 23 ∧ s' 32 = s 32) ∧ mst μ' s' κ ∧ mkp μ' s' true κ ∧ ∀ i, i ≠ 88 → i ≠ 90 → μ' i = μ i) : mSt μ' ((κ, κ, true), τ, σ, (R, rw), (b, ln, tk), (tc, tr)) ∧ ∀ i, (i < 88 ∨ 105 < i) → μ' i = μ i := by
  obtain ⟨h1, h2, h3, h4, h5, h6, h7, h8, h9⟩ := h
  obtain ⟨-, s', ⟨e5, e23, e32⟩, k1, k2, hf⟩ := k
  exact ⟨⟨s', k1, k2, ⟨e23.trans h3.1, (hf 98 (by decide) (by decide)).trans h3.2.1, h3.2.2⟩, e5.trans h4, (hf 92 (by decide) (by decide)).trans h5, isShM_fr9 h6 (fun i a1 a2 => hf i (by omega) (by omega)), isHeM_fr9 h7 (fun i a1 a2 => hf i (by omega) (by omega)), e32.trans h8, (hf 105 (by decide) (by decide)).trans h9⟩, fun i hi => hf i (by omega) (by omega)⟩
theorem cSt_act0 {μ μ' : Nat → va_E} {κ κ' : zκ} {kf : Bool} {τ : zτ} {σ : zσ} {R : Nat} {rw : Nat → Int32} {b tk : Nat → Nat} {ln tc : Nat} {tr : Nat → Int32} {r : Option Value} (h : cSt μ ((κ, κ', kf), τ, σ, (R, rw), (b, ln, tk), (tc, tr))) (k : r = some (.int (nI 0)) ∧ isOb μ' (bI kf) .null ∧ ∀ i, i ≠ 4 → μ' i = μ i) : cSt μ' ((κ, κ', kf), τ, σ, (R, rw), (b, ln, tk), (0, tr)) ∧ ∀ i, 88 ≤ i → μ' i = μ i := by
  obtain ⟨h1, h2, -, h4, h5, h6, h7, h8, h9⟩ := h
  obtain ⟨-, k1, hf⟩ := k
  exact ⟨⟨cst_fr h1 (fun i a1 a2 => hf i (by omega)), cstA_fr h2 (fun i a1 a2 => hf i (by omega)), ⟨.null, k1, Or.inl ⟨rfl, rfl⟩⟩, isTr_fr h4 (fun i a1 a2 => hf i (by omega)), isPl_fr h5 (fun i a1 a2 => hf i (by omega)), isSh_fr h6 (fun i a1 a2 => hf i (by omega)), isHe_fr h7 (fun i a1 a2 => hf i (by omega)), isTa_fr h8 (fun i a1 a2 => hf i (by omega)), (hf 87 (by decide)).trans h9⟩, fun i hi => hf i (by omega)⟩
theorem cSt_act1 {μ μ' : Nat → va_E} {κ κ' : zκ} {kf : Bool} {τ : zτ} {σ : zσ} {R : Nat} {rw : Nat → Int32} {b tk : Nat → Nat} {ln tc : Nat} {tr : Nat → Int32} {r : Option Value} {a : Int32} {n tc2 : Nat} {tr2 : Nat → Int32} (h : cSt μ ((κ, κ', kf), τ, σ, (R, rw), (b, ln, tk), (tc, tr))) (hn : 106 ≤ n) (k : r = some (.int a) ∧ isOb μ' (bI kf) (.ref n) ∧ isAc μ' (.ref n) tc2 ∧ μ' 87 = .inl (0, 30, .inl tr2) ∧ ∀ i, i ≠ 4 → i ≠ 87 → i ≠ n → μ' i = μ i) : cSt μ' ((κ, κ', kf), τ, σ, (R, rw), (b, ln, tk), (tc2, tr2)) ∧ ∀ i, 88 ≤ i → i ≤ 105 → μ' i = μ i := by
  obtain ⟨h1, h2, -, h4, h5, h6, h7, h8, h9⟩ := h
  obtain ⟨-, k1, k2, k3, hf⟩ := k
  exact ⟨⟨cst_fr h1 (fun i a1 a2 => hf i (by omega) (by omega) (by omega)), cstA_fr h2 (fun i a1 a2 => hf i (by omega) (by omega) (by omega)), ⟨.ref n, k1, k2⟩, isTr_fr h4 (fun i a1 a2 => hf i (by omega) (by omega) (by omega)), isPl_fr h5 (fun i a1 a2 => hf i (by omega) (by omega) (by omega)), isSh_fr h6 (fun i a1 a2 => hf i (by omega) (by omega) (by omega)), isHe_fr h7 (fun i a1 a2 => hf i (by omega) (by omega) (by omega)), isTa_fr h8 (fun i a1 a2 => hf i (by omega) (by omega) (by omega)), k3⟩, fun i a1 a2 => hf i (by omega) (by omega) (by omega)⟩
set_option maxHeartbeats 4000000 in
set_option maxRecDepth 100000 in
theorem w_keep {G : zG} {n u nF uF : Nat} {Φ : zP} {μ : Nat → va_E} {i : Nat} {κ κ' : zκ} {kf : Bool} {τ : zτ} {σ : zσ} {R : Nat} {rw : Nat → Int32} {b tk : Nat → Nat} {ln tc : Nat} {tr : Nat → Int32} (hI : Inv μ n ((κ, κ', kf), τ, σ, (R, rw), (b, ln, tk), (tc, tr))) (hi : i + 5 ≤ zL G) (hL : zL G ≤ 2560) (hn : n ≤ nF) (hu : u ≤ uF) (K : ∀ μ', Inv μ' n ((κ, κ, true), τ, σ, (R, rw), (b, ln, tk), (tc, tr)) → zW G 19 M_Lw_law 1789 [.ref 2, .ref 4, .ref 88, .int (nI i)] [] n u μ' nF uF Φ) : zW G 19 M_Lw_law 1763 [.ref 2, .ref 4, .ref 88, .int (nI i)] [] n u μ nF uF Φ := by
  obtain ⟨hc, hm, h106, hr, hr', htc⟩ := hI
  have hc0 := hc
  obtain ⟨h1, h2, ⟨ac, h3, h3a⟩, h4, h5, h6, h7, h8, h9⟩ := hc
  refine z_spec (fun hs => ?_)
  have m2 := hs 2 (by decide)
  refine z_al1 (pc' := 1764) 1213 rfl rfl ?_
  refine z_callV (pc' := 1767) 1214 rfl rfl k_Lw_225 (by exact h3) (c_Wb_keep h1 h2 h3) (by decide) (by omega) (by omega) rfl rfl (Nat.le_of_ble_eq_true rfl) (fun r1764 μ1764 h1764 => ?_)
  obtain ⟨cst1, fr1⟩ := cSt_keep hc0 h3a h1764
  have e1 := h1764.1
  subst e1
  obtain ⟨s, hs1⟩ := mSt_fr hm (fun i a1 a2 => fr1 i a1)
  dsimp only [Option.toList_some, List.cons_append, List.nil_append]
  refine z_spec (fun hs => ?_)
  have m2 := hs 2 (by decide)
  refine z_al2 (pc' := 1768) 1215 rfl rfl ?_
  refine z_callV (pc' := 1771) 1216 rfl rfl k_Lw_228 (by exact mst_88 hs1.1) (c_Mo_keep hs1.1 hs1.2.1) (by decide) (by omega) (by omega) rfl rfl (Nat.le_of_ble_eq_true rfl) (fun r1768 μ1768 h1768 => ?_)
  obtain ⟨mst2, fr2⟩ := mSt_keep hs1 h1768
  have e2 := h1768.1
  subst e2
  dsimp only [Option.toList_some, List.cons_append, List.nil_append]
  refine z_spec (fun hs => ?_)
  have m2 := hs 2 (by decide)
  refine z_icmp_eq_t 1217 rfl (tgt := 1789) rfl rfl ?_
  exact K _ ⟨cSt_fr cst1 fr2, mst2, h106, hr, hr, htc⟩
set_option maxHeartbeats 4000000 in
set_option maxRecDepth 100000 in
theorem w_feed {G : zG} {n u nF uF : Nat} {Φ : zP} {μ : Nat → va_E} {i : Nat} {κ κ' : zκ} {kf : Bool} {τ : zτ} {σ : zσ} {R : Nat} {rw : Nat → Int32} {b tk : Nat → Nat} {ln tc : Nat} {tr : Nat → Int32} (hI : Inv μ n ((κ, κ', kf), τ, σ, (R, rw), (b, ln, tk), (tc, tr))) (hi : i + 5 ≤ zL G) (hL : zL G ≤ 2560) (hn : n ≤ nF) (hu : u ≤ uF) (K : ∀ μ', Inv μ' n ((κ, κ', kf), τ, σ, (R, rw), ((f_feed b ln (((zX G (i + 1)).toInt64 <<< ((nI 32).toInt64 &&& 63)) ||| ((zX G (i + 2)).toInt64 &&& 4294967295)) (zX G (i + 3))).2.1, (f_feed b ln (((zX G (i + 1)).toInt64 <<< ((nI 32).toInt64 &&& 63)) ||| ((zX G (i + 2)).toInt64 &&& 4294967295)) (zX G (i + 3))).2.2, tk), (tc, tr)) → zW G 19 M_Lw_law 1789 [.ref 2, .ref 4, .ref 88, .int (nI i)] [] n u μ' nF uF Φ) : zW G 19 M_Lw_law 633 [.ref 2, .ref 4, .ref 88, .int (nI i)] [] n u μ nF uF Φ := by
  obtain ⟨hc, hm, h106, hr, hr', htc⟩ := hI
  have hc0 := hc
  obtain ⟨h1, h2, ⟨ac, h3, h3a⟩, h4, h5, h6, h7, h8, h9⟩ := hc
  refine z_spec (fun hs => ?_)
  have m2 := hs 2 (by decide)
  refine z_al1 (pc' := 634) 329 rfl rfl ?_
  refine z_al0 (pc' := 635) 330 rfl rfl ?_
  refine z_il3 (pc' := 636) 331 rfl rfl ?_
  refine z_iconst (v := nI 1) (by decide) (pc' := 637) 332 rfl rfl ?_
  first | refine z_iaddN (pc' := 638) 333 rfl rfl ?_ | refine z_iadd (pc' := 638) 333 rfl rfl ?_
  refine z_iald7 (pc' := 639) 334 rfl rfl (by decide) (by exact m2) (by omega) (by omega) ?_
  refine z_i2l (pc' := 640) 335 rfl rfl ?_
  refine z_bipush (v := nI 32) (by decide) (pc' := 642) 336 rfl rfl ?_
  refine z_lshl (pc' := 643) 337 rfl rfl ?_
  refine z_al0 (pc' := 644) 338 rfl rfl ?_
  refine z_il3 (pc' := 645) 339 rfl rfl ?_
  refine z_iconst (v := nI 2) (by decide) (pc' := 646) 340 rfl rfl ?_
  first | refine z_iaddN (pc' := 647) 341 rfl rfl ?_ | refine z_iadd (pc' := 647) 341 rfl rfl ?_
  refine z_iald7 (pc' := 648) 342 rfl rfl (by decide) (by exact m2) (by omega) (by omega) ?_
  refine z_i2l (pc' := 649) 343 rfl rfl ?_
  refine z_ldc2 l_Lw_62 (pc' := 652) 344 rfl rfl ?_
  refine z_land (pc' := 653) 345 rfl rfl ?_
  refine z_lor (pc' := 654) 346 rfl rfl ?_
  refine z_al0 (pc' := 655) 347 rfl rfl ?_
  refine z_il3 (pc' := 656) 348 rfl rfl ?_
  refine z_iconst (v := nI 3) (by decide) (pc' := 657) 349 rfl rfl ?_
  first | refine z_iaddN (pc' := 658) 350 rfl rfl ?_ | refine z_iadd (pc' := 658) 350 rfl rfl ?_
  refine z_iald7 (pc' := 659) 351 rfl rfl (by decide) (by exact m2) (by omega) (by omega) ?_
  refine z_callV (pc' := 662) 352 rfl rfl k_Lw_64 (by exact h3) (c_Wb_feed h3 h8 _ _) (by decide) (by omega) (by omega) rfl rfl (Nat.le_of_ble_eq_true rfl) (fun r659 μ659 h659 => ?_)
  obtain ⟨cst1, fr1⟩ := cSt_Fd hc0 h659
  have e1 := h659.1
  subst e1
  obtain ⟨s, hs1⟩ := mSt_fr hm (fun i a1 a2 => fr1 i a1)
  dsimp only [Option.toList_some, List.cons_append, List.nil_append]
  refine z_spec (fun hs => ?_)
  have m2 := hs 2 (by decide)
  refine z_al2 (pc' := 663) 353 rfl rfl ?_
  refine z_al0 (pc' := 664) 354 rfl rfl ?_
  refine z_il3 (pc' := 665) 355 rfl rfl ?_
  refine z_iconst (v := nI 1) (by decide) (pc' := 666) 356 rfl rfl ?_
  first | refine z_iaddN (pc' := 667) 357 rfl rfl ?_ | refine z_iadd (pc' := 667) 357 rfl rfl ?_
  refine z_iald7 (pc' := 668) 358 rfl rfl (by decide) (by exact m2) (by omega) (by omega) ?_
  refine z_i2l (pc' := 669) 359 rfl rfl ?_
  refine z_bipush (v := nI 32) (by decide) (pc' := 671) 360 rfl rfl ?_
  refine z_lshl (pc' := 672) 361 rfl rfl ?_
  refine z_al0 (pc' := 673) 362 rfl rfl ?_
  refine z_il3 (pc' := 674) 363 rfl rfl ?_
  refine z_iconst (v := nI 2) (by decide) (pc' := 675) 364 rfl rfl ?_
  first | refine z_iaddN (pc' := 676) 365 rfl rfl ?_ | refine z_iadd (pc' := 676) 365 rfl rfl ?_
  refine z_iald7 (pc' := 677) 366 rfl rfl (by decide) (by exact m2) (by omega) (by omega) ?_
  refine z_i2l (pc' := 678) 367 rfl rfl ?_
  refine z_ldc2 l_Lw_62 (pc' := 681) 368 rfl rfl ?_
  refine z_land (pc' := 682) 369 rfl rfl ?_
  refine z_lor (pc' := 683) 370 rfl rfl ?_
  refine z_al0 (pc' := 684) 371 rfl rfl ?_
  refine z_il3 (pc' := 685) 372 rfl rfl ?_
  refine z_iconst (v := nI 3) (by decide) (pc' := 686) 373 rfl rfl ?_
  first | refine z_iaddN (pc' := 687) 374 rfl rfl ?_ | refine z_iadd (pc' := 687) 374 rfl rfl ?_
  refine z_iald7 (pc' := 688) 375 rfl rfl (by decide) (by exact m2) (by omega) (by omega) ?_
  refine z_callV (pc' := 691) 376 rfl rfl k_Lw_68 (by exact mst_88 hs1.1) (c_Mo_feed hs1.1 hs1.2.2.2.2.1 h8.2.1 hs1.2.2.2.1 _ _) (by decide) (by omega) (by omega) rfl rfl (Nat.le_of_ble_eq_true rfl) (fun r688 μ688 h688 => ?_)
  obtain ⟨mst2, fr2⟩ := mSt_Fd hs1 h688
  have e2 := h688.1
  subst e2
  dsimp only [Option.toList_some, List.cons_append, List.nil_append]
  refine z_spec (fun hs => ?_)
  have m2 := hs 2 (by decide)
  refine z_icmp_eq_t 377 rfl (tgt := 1789) rfl rfl ?_
  exact K _ ⟨cSt_fr cst1 fr2, mst2, h106, hr, hr', htc⟩
set_option maxHeartbeats 4000000 in
set_option maxRecDepth 100000 in
theorem w_act0 {G : zG} {n u nF uF : Nat} {Φ : zP} {μ : Nat → va_E} {i : Nat} {κ κ' : zκ} {kf : Bool} {τ : zτ} {σ : zσ} {R : Nat} {rw : Nat → Int32} {b tk : Nat → Nat} {ln tc : Nat} {tr : Nat → Int32} (hac : ¬ acC κ.1 σ (zX G (i + 1)) (zX G (i + 2))) (hI : Inv μ n ((κ, κ', kf), τ, σ, (R, rw), (b, ln, tk), (tc, tr))) (hi : i + 5 ≤ zL G) (hL : zL G ≤ 2560) (hn : n ≤ nF) (hu : u ≤ uF) (K : ∀ μ', Inv μ' n ((κ, κ', kf), τ, σ, (R, rw), (b, ln, tk), (0, tr)) → zW G 19 M_Lw_law 1789 [.ref 2, .ref 4, .ref 88, .int (nI i)] [] n u μ' nF uF Φ) : zW G 19 M_Lw_law 1674 [.ref 2, .ref 4, .ref 88, .int (nI i)] [] n u μ nF uF Φ := by
  obtain ⟨hc, hm, h106, hr, hr', htc⟩ := hI
  have hc0 := hc
  obtain ⟨h1, h2, ⟨ac, h3, h3a⟩, h4, h5, h6, h7, h8, h9⟩ := hc
  refine z_spec (fun hs => ?_)
  have m2 := hs 2 (by decide)
  refine z_al1 (pc' := 1675) 1142 rfl rfl ?_
  refine z_al0 (pc' := 1676) 1143 rfl rfl ?_
  refine z_il3 (pc' := 1677) 1144 rfl rfl ?_
  refine z_iconst (v := nI 1) (by decide) (pc' := 1678) 1145 rfl rfl ?_
  first | refine z_iaddN (pc' := 1679) 1146 rfl rfl ?_ | refine z_iadd (pc' := 1679) 1146 rfl rfl ?_
  refine z_iald7 (pc' := 1680) 1147 rfl rfl (by decide) (by exact m2) (by omega) (by omega) ?_
  refine z_al0 (pc' := 1681) 1148 rfl rfl ?_
  refine z_il3 (pc' := 1682) 1149 rfl rfl ?_
  refine z_iconst (v := nI 2) (by decide) (pc' := 1683) 1150 rfl rfl ?_
  first | refine z_iaddN (pc' := 1684) 1151 rfl rfl ?_ | refine z_iadd (pc' := 1684) 1151 rfl rfl ?_
  refine z_iald7 (pc' := 1685) 1152 rfl rfl (by decide) (by exact m2) (by omega) (by omega) ?_
  refine z_al0 (pc' := 1686) 1153 rfl rfl ?_
  refine z_il3 (pc' := 1687) 1154 rfl rfl ?_
  refine z_iconst (v := nI 3) (by decide) (pc' := 1688) 1155 rfl rfl ?_
  first | refine z_iaddN (pc' := 1689) 1156 rfl rfl ?_ | refine z_iadd (pc' := 1689) 1156 rfl rfl ?_
  refine z_iald7 (pc' := 1690) 1157 rfl rfl (by decide) (by exact m2) (by omega) (by omega) ?_
  refine z_callV (pc' := 1693) 1158 rfl rfl k_Lw_213 (by exact h3) (c_Wb_act0 h1 h7 h3 h9 h106 _ _ _ hac) (by decide) (by omega) (by omega) rfl rfl (Nat.le_of_ble_eq_true rfl) (fun r1690 μ1690 h1690 => ?_)
  obtain ⟨cst1, fr1⟩ := cSt_act0 hc0 h1690
  have e1 := h1690.1
  subst e1
  obtain ⟨s, hs1⟩ := mSt_fr hm (fun i a1 a2 => fr1 i a1)
  dsimp only [Option.toList_some, List.cons_append, List.nil_append]
  refine z_spec (fun hs => ?_)
  have m2 := hs 2 (by decide)
  refine z_al2 (pc' := 1694) 1159 rfl rfl ?_
  refine z_al0 (pc' := 1695) 1160 rfl rfl ?_
  refine z_il3 (pc' := 1696) 1161 rfl rfl ?_
  refine z_iconst (v := nI 1) (by decide) (pc' := 1697) 1162 rfl rfl ?_
  first | refine z_iaddN (pc' := 1698) 1163 rfl rfl ?_ | refine z_iadd (pc' := 1698) 1163 rfl rfl ?_
  refine z_iald7 (pc' := 1699) 1164 rfl rfl (by decide) (by exact m2) (by omega) (by omega) ?_
  refine z_al0 (pc' := 1700) 1165 rfl rfl ?_
  refine z_il3 (pc' := 1701) 1166 rfl rfl ?_
  refine z_iconst (v := nI 2) (by decide) (pc' := 1702) 1167 rfl rfl ?_
  first | refine z_iaddN (pc' := 1703) 1168 rfl rfl ?_ | refine z_iadd (pc' := 1703) 1168 rfl rfl ?_
  refine z_iald7 (pc' := 1704) 1169 rfl rfl (by decide) (by exact m2) (by omega) (by omega) ?_
  refine z_al0 (pc' := 1705) 1170 rfl rfl ?_
  refine z_il3 (pc' := 1706) 1171 rfl rfl ?_
  refine z_iconst (v := nI 3) (by decide) (pc' := 1707) 1172 rfl rfl ?_
  first | refine z_iaddN (pc' := 1708) 1173 rfl rfl ?_ | refine z_iadd (pc' := 1708) 1173 rfl rfl ?_
  refine z_iald7 (pc' := 1709) 1174 rfl rfl (by decide) (by exact m2) (by omega) (by omega) ?_
  refine z_callV (pc' := 1712) 1175 rfl rfl k_Lw_216 (by exact mst_88 hs1.1) (zMet_to (c_Mo_act hs1.1 hs1.2.2.2.2.2.2.1 hs1.2.2.2.2.2.2.2.1 hs1.2.2.2.2.2.2.2.2 (zX G (i + 1)) (zX G (i + 2)) (zX G (i + 3))) (fun _ _ z => z.2 hac)) (by decide) (by omega) (by omega) rfl rfl (Nat.le_of_ble_eq_true rfl) (fun r1709 μ1709 h1709 => ?_)
  obtain ⟨mst2, fr2⟩ := mSt_Ka hs1 h1709
  have e2 := h1709.1
  subst e2
  dsimp only [Option.toList_some, List.cons_append, List.nil_append]
  refine z_spec (fun hs => ?_)
  have m2 := hs 2 (by decide)
  refine z_icmp_eq_t 1176 rfl (tgt := 1789) rfl rfl ?_
  exact K _ ⟨cSt_fr cst1 fr2, mst2, h106, hr, hr', Nat.zero_le _⟩
set_option maxHeartbeats 4000000 in
set_option maxRecDepth 100000 in
theorem w_act1 {G : zG} {n u nF uF : Nat} {Φ : zP} {μ : Nat → va_E} {i : Nat} {κ κ' : zκ} {kf : Bool} {τ : zτ} {σ : zσ} {R : Nat} {rw : Nat → Int32} {b tk : Nat → Nat} {ln tc : Nat} {tr : Nat → Int32} (hac : acC κ.1 σ (zX G (i + 1)) (zX G (i + 2))) (h30 : (acR κ.1 σ tr (zX G (i + 1)) (zX G (i + 2)) (zX G (i + 3))).2.1 ≤ 30) (hI : Inv μ n ((κ, κ', kf), τ, σ, (R, rw), (b, ln, tk), (tc, tr))) (hi : i + 5 ≤ zL G) (hL : zL G ≤ 2560) (hn : n + 1 ≤ nF) (hu : u + 5 ≤ uF) (K : ∀ μ', Inv μ' (n + 1) ((κ, κ', kf), τ, σ, (R, rw), (b, ln, tk), ((acR κ.1 σ tr (zX G (i + 1)) (zX G (i + 2)) (zX G (i + 3))).2.1, (acR κ.1 σ tr (zX G (i + 1)) (zX G (i + 2)) (zX G (i + 3))).2.2.2)) → zW G 19 M_Lw_law 1789 [.ref 2, .ref 4, .ref 88, .int (nI i)] [] (n + 1) (u + 5) μ' nF uF Φ) : zW G 19 M_Lw_law 1674 [.ref 2, .ref 4, .ref 88, .int (nI i)] [] n u μ nF uF Φ := by
  obtain ⟨hc, hm, h106, hr, hr', htc⟩ := hI
  have hc0 := hc
  obtain ⟨h1, h2, ⟨ac, h3, h3a⟩, h4, h5, h6, h7, h8, h9⟩ := hc
  refine z_spec (fun hs => ?_)
  have m2 := hs 2 (by decide)
  refine z_al1 (pc' := 1675) 1142 rfl rfl ?_
  refine z_al0 (pc' := 1676) 1143 rfl rfl ?_
  refine z_il3 (pc' := 1677) 1144 rfl rfl ?_
  refine z_iconst (v := nI 1) (by decide) (pc' := 1678) 1145 rfl rfl ?_
  first | refine z_iaddN (pc' := 1679) 1146 rfl rfl ?_ | refine z_iadd (pc' := 1679) 1146 rfl rfl ?_
  refine z_iald7 (pc' := 1680) 1147 rfl rfl (by decide) (by exact m2) (by omega) (by omega) ?_
  refine z_al0 (pc' := 1681) 1148 rfl rfl ?_
  refine z_il3 (pc' := 1682) 1149 rfl rfl ?_
  refine z_iconst (v := nI 2) (by decide) (pc' := 1683) 1150 rfl rfl ?_
  first | refine z_iaddN (pc' := 1684) 1151 rfl rfl ?_ | refine z_iadd (pc' := 1684) 1151 rfl rfl ?_
  refine z_iald7 (pc' := 1685) 1152 rfl rfl (by decide) (by exact m2) (by omega) (by omega) ?_
  refine z_al0 (pc' := 1686) 1153 rfl rfl ?_
  refine z_il3 (pc' := 1687) 1154 rfl rfl ?_
  refine z_iconst (v := nI 3) (by decide) (pc' := 1688) 1155 rfl rfl ?_
  first | refine z_iaddN (pc' := 1689) 1156 rfl rfl ?_ | refine z_iadd (pc' := 1689) 1156 rfl rfl ?_
  refine z_iald7 (pc' := 1690) 1157 rfl rfl (by decide) (by exact m2) (by omega) (by omega) ?_
  refine z_callV (pc' := 1693) 1158 rfl rfl k_Lw_213 (by exact h3) (c_Wb_act1 h1 h7 h3 h9 h106 _ _ _ hac) (by decide) (by omega) (by omega) rfl rfl (Nat.le_of_ble_eq_true rfl) (fun r1690 μ1690 h1690 => ?_)
  obtain ⟨cst1, fr1⟩ := cSt_act1 hc0 h106 h1690
  have e1 := h1690.1
  subst e1
  obtain ⟨s, hs1⟩ := mSt_fr hm (fun i a1 a2 => fr1 i a1 a2)
  dsimp only [Option.toList_some, List.cons_append, List.nil_append]
  refine z_spec (fun hs => ?_)
  have m2 := hs 2 (by decide)
  refine z_al2 (pc' := 1694) 1159 rfl rfl ?_
  refine z_al0 (pc' := 1695) 1160 rfl rfl ?_
  refine z_il3 (pc' := 1696) 1161 rfl rfl ?_
  refine z_iconst (v := nI 1) (by decide) (pc' := 1697) 1162 rfl rfl ?_
  first | refine z_iaddN (pc' := 1698) 1163 rfl rfl ?_ | refine z_iadd (pc' := 1698) 1163 rfl rfl ?_
  refine z_iald7 (pc' := 1699) 1164 rfl rfl (by decide) (by exact m2) (by omega) (by omega) ?_
  refine z_al0 (pc' := 1700) 1165 rfl rfl ?_
  refine z_il3 (pc' := 1701) 1166 rfl rfl ?_
  refine z_iconst (v := nI 2) (by decide) (pc' := 1702) 1167 rfl rfl ?_
  first | refine z_iaddN (pc' := 1703) 1168 rfl rfl ?_ | refine z_iadd (pc' := 1703) 1168 rfl rfl ?_
  refine z_iald7 (pc' := 1704) 1169 rfl rfl (by decide) (by exact m2) (by omega) (by omega) ?_
  refine z_al0 (pc' := 1705) 1170 rfl rfl ?_
  refine z_il3 (pc' := 1706) 1171 rfl rfl ?_
  refine z_iconst (v := nI 3) (by decide) (pc' := 1707) 1172 rfl rfl ?_
  first | refine z_iaddN (pc' := 1708) 1173 rfl rfl ?_ | refine z_iadd (pc' := 1708) 1173 rfl rfl ?_
  refine z_iald7 (pc' := 1709) 1174 rfl rfl (by decide) (by exact m2) (by omega) (by omega) ?_
  refine z_callV (pc' := 1712) 1175 rfl rfl k_Lw_216 (by exact mst_88 hs1.1) (zMet_to (c_Mo_act hs1.1 hs1.2.2.2.2.2.2.1 hs1.2.2.2.2.2.2.2.1 hs1.2.2.2.2.2.2.2.2 (zX G (i + 1)) (zX G (i + 2)) (zX G (i + 3))) (fun _ _ z => z.1 hac)) (by decide) (by omega) (by omega) rfl rfl (Nat.le_of_ble_eq_true rfl) (fun r1709 μ1709 h1709 => ?_)
  obtain ⟨mst2, fr2⟩ := mSt_Ka hs1 h1709
  have e2 := h1709.1
  subst e2
  dsimp only [Option.toList_some, List.cons_append, List.nil_append]
  refine z_spec (fun hs => ?_)
  have m2 := hs 2 (by decide)
  refine z_icmp_eq_t 1176 rfl (tgt := 1789) rfl rfl ?_
  exact K _ ⟨cSt_fr cst1 fr2, mst2, (by omega), hr, hr', h30⟩
