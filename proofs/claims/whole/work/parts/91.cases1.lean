/-! ===== the law's cases ===== -/
def Inv (μ : Nat → va_E) (n : Nat) (A9 : zAll) : Prop := cSt μ A9 ∧ mSt μ A9 ∧ 106 ≤ n ∧ iRp A9.1.1.1 ∧ iRp A9.1.2.1.1 ∧ A9.2.2.2.2.2.1 ≤ 30
theorem mst_88 {μ : Nat → va_E} {s : Nat → Int32} {κ : zκ} (h : mst μ s κ) : μ 88 = mob s := by
  obtain ⟨S, mo, pr, fa, sc, ch, rc, D⟩ := κ
  exact h.2.1
set_option maxHeartbeats 4000000 in
set_option maxRecDepth 100000 in
theorem w_girl {G : zG} {n u nF uF : Nat} {Φ : zP} {μ : Nat → va_E} {i : Nat} {κ κ' : zκ} {kf : Bool} {τ : zτ} {σ : zσ} {R : Nat} {rw : Nat → Int32} {b tk : Nat → Nat} {ln tc : Nat} {tr : Nat → Int32} (hI : Inv μ n ((κ, κ', kf), τ, σ, (R, rw), (b, ln, tk), (tc, tr))) (hi : i + 5 ≤ zL G) (hL : zL G ≤ 2560) (hn : n ≤ nF) (hu : u ≤ uF) (K : ∀ μ', Inv μ' n (((f_girl κ (zX G (i + 1)) (zX G (i + 2)) (zX G (i + 3))).2, κ', kf), τ, σ, (R, rw), (b, ln, tk), (tc, tr)) → zW G 19 M_Lw_law 1789 [.ref 2, .ref 4, .ref 88, .int (nI i)] [] n u μ' nF uF Φ) : zW G 19 M_Lw_law 260 [.ref 2, .ref 4, .ref 88, .int (nI i)] [] n u μ nF uF Φ := by
  obtain ⟨hc, hm, h106, hr, hr', htc⟩ := hI
  have hc0 := hc
  obtain ⟨h1, h2, ⟨ac, h3, h3a⟩, h4, h5, h6, h7, h8, h9⟩ := hc
  refine z_spec (fun hs => ?_)
  have m2 := hs 2 (by decide)
  refine z_al1 (pc' := 261) 22 rfl rfl ?_
  refine z_al0 (pc' := 262) 23 rfl rfl ?_
  refine z_il3 (pc' := 263) 24 rfl rfl ?_
  refine z_iconst (v := nI 1) (by decide) (pc' := 264) 25 rfl rfl ?_
  first | refine z_iaddN (pc' := 265) 26 rfl rfl ?_ | refine z_iadd (pc' := 265) 26 rfl rfl ?_
  refine z_iald7 (pc' := 266) 27 rfl rfl (by decide) (by exact m2) (by omega) (by omega) ?_
  refine z_al0 (pc' := 267) 28 rfl rfl ?_
  refine z_il3 (pc' := 268) 29 rfl rfl ?_
  refine z_iconst (v := nI 2) (by decide) (pc' := 269) 30 rfl rfl ?_
  first | refine z_iaddN (pc' := 270) 31 rfl rfl ?_ | refine z_iadd (pc' := 270) 31 rfl rfl ?_
  refine z_iald7 (pc' := 271) 32 rfl rfl (by decide) (by exact m2) (by omega) (by omega) ?_
  refine z_al0 (pc' := 272) 33 rfl rfl ?_
  refine z_il3 (pc' := 273) 34 rfl rfl ?_
  refine z_iconst (v := nI 3) (by decide) (pc' := 274) 35 rfl rfl ?_
  first | refine z_iaddN (pc' := 275) 36 rfl rfl ?_ | refine z_iadd (pc' := 275) 36 rfl rfl ?_
  refine z_iald7 (pc' := 276) 37 rfl rfl (by decide) (by exact m2) (by omega) (by omega) ?_
  refine z_callV (pc' := 279) 38 rfl rfl k_Lw_13 (by exact h3) (c_Wb_girl h1 h3 _ _ _) (by decide) (by omega) (by omega) rfl rfl (Nat.le_of_ble_eq_true rfl) (fun r276 μ276 h276 => ?_)
  obtain ⟨cst1, fr1⟩ := cSt_K hc0 h276
  have e1 := h276.1
  subst e1
  obtain ⟨s, hs1⟩ := mSt_fr hm (fun i a1 a2 => fr1 i a1)
  dsimp only [Option.toList_some, List.cons_append, List.nil_append]
  refine z_spec (fun hs => ?_)
  have m2 := hs 2 (by decide)
  refine z_al2 (pc' := 280) 39 rfl rfl ?_
  refine z_al0 (pc' := 281) 40 rfl rfl ?_
  refine z_il3 (pc' := 282) 41 rfl rfl ?_
  refine z_iconst (v := nI 1) (by decide) (pc' := 283) 42 rfl rfl ?_
  first | refine z_iaddN (pc' := 284) 43 rfl rfl ?_ | refine z_iadd (pc' := 284) 43 rfl rfl ?_
  refine z_iald7 (pc' := 285) 44 rfl rfl (by decide) (by exact m2) (by omega) (by omega) ?_
  refine z_al0 (pc' := 286) 45 rfl rfl ?_
  refine z_il3 (pc' := 287) 46 rfl rfl ?_
  refine z_iconst (v := nI 2) (by decide) (pc' := 288) 47 rfl rfl ?_
  first | refine z_iaddN (pc' := 289) 48 rfl rfl ?_ | refine z_iadd (pc' := 289) 48 rfl rfl ?_
  refine z_iald7 (pc' := 290) 49 rfl rfl (by decide) (by exact m2) (by omega) (by omega) ?_
  refine z_al0 (pc' := 291) 50 rfl rfl ?_
  refine z_il3 (pc' := 292) 51 rfl rfl ?_
  refine z_iconst (v := nI 3) (by decide) (pc' := 293) 52 rfl rfl ?_
  first | refine z_iaddN (pc' := 294) 53 rfl rfl ?_ | refine z_iadd (pc' := 294) 53 rfl rfl ?_
  refine z_iald7 (pc' := 295) 54 rfl rfl (by decide) (by exact m2) (by omega) (by omega) ?_
  refine z_callV (pc' := 298) 55 rfl rfl k_Lw_17 (by exact mst_88 hs1.1) (c_Mo_girl hs1.1 _ _ _) (by decide) (by omega) (by omega) rfl rfl (Nat.le_of_ble_eq_true rfl) (fun r295 μ295 h295 => ?_)
  obtain ⟨mst2, fr2⟩ := mSt_K hs1 h295
  have e2 := h295.1
  subst e2
  dsimp only [Option.toList_some, List.cons_append, List.nil_append]
  refine z_spec (fun hs => ?_)
  have m2 := hs 2 (by decide)
  refine z_icmp_eq_t 56 rfl (tgt := 1789) rfl rfl ?_
  exact K _ ⟨cSt_fr cst1 fr2, mst2, h106, iRp_girl hr (zX G (i + 1)) (zX G (i + 2)) (zX G (i + 3)), hr', htc⟩
set_option maxHeartbeats 4000000 in
set_option maxRecDepth 100000 in
theorem w_girlOf {G : zG} {n u nF uF : Nat} {Φ : zP} {μ : Nat → va_E} {i : Nat} {κ κ' : zκ} {kf : Bool} {τ : zτ} {σ : zσ} {R : Nat} {rw : Nat → Int32} {b tk : Nat → Nat} {ln tc : Nat} {tr : Nat → Int32} (hI : Inv μ n ((κ, κ', kf), τ, σ, (R, rw), (b, ln, tk), (tc, tr))) (hi : i + 5 ≤ zL G) (hL : zL G ≤ 2560) (hn : n ≤ nF) (hu : u ≤ uF) (K : ∀ μ', Inv μ' n (((f_girlOf κ (zX G (i + 1)) (zX G (i + 2))).2, κ', kf), τ, σ, (R, rw), (b, ln, tk), (tc, tr)) → zW G 19 M_Lw_law 1789 [.ref 2, .ref 4, .ref 88, .int (nI i)] [] n u μ' nF uF Φ) : zW G 19 M_Lw_law 303 [.ref 2, .ref 4, .ref 88, .int (nI i)] [] n u μ nF uF Φ := by
  obtain ⟨hc, hm, h106, hr, hr', htc⟩ := hI
  have hc0 := hc
  obtain ⟨h1, h2, ⟨ac, h3, h3a⟩, h4, h5, h6, h7, h8, h9⟩ := hc
  refine z_spec (fun hs => ?_)
  have m2 := hs 2 (by decide)
  refine z_al1 (pc' := 304) 59 rfl rfl ?_
  refine z_al0 (pc' := 305) 60 rfl rfl ?_
  refine z_il3 (pc' := 306) 61 rfl rfl ?_
  refine z_iconst (v := nI 1) (by decide) (pc' := 307) 62 rfl rfl ?_
  first | refine z_iaddN (pc' := 308) 63 rfl rfl ?_ | refine z_iadd (pc' := 308) 63 rfl rfl ?_
  refine z_iald7 (pc' := 309) 64 rfl rfl (by decide) (by exact m2) (by omega) (by omega) ?_
  refine z_al0 (pc' := 310) 65 rfl rfl ?_
  refine z_il3 (pc' := 311) 66 rfl rfl ?_
  refine z_iconst (v := nI 2) (by decide) (pc' := 312) 67 rfl rfl ?_
  first | refine z_iaddN (pc' := 313) 68 rfl rfl ?_ | refine z_iadd (pc' := 313) 68 rfl rfl ?_
  refine z_iald7 (pc' := 314) 69 rfl rfl (by decide) (by exact m2) (by omega) (by omega) ?_
  refine z_callV (pc' := 317) 70 rfl rfl k_Lw_18 (by exact h3) (c_Wb_girlOf h1 h3 _ _) (by decide) (by omega) (by omega) rfl rfl (Nat.le_of_ble_eq_true rfl) (fun r314 μ314 h314 => ?_)
  obtain ⟨cst1, fr1⟩ := cSt_K hc0 h314
  have e1 := h314.1
  subst e1
  obtain ⟨s, hs1⟩ := mSt_fr hm (fun i a1 a2 => fr1 i a1)
  dsimp only [Option.toList_some, List.cons_append, List.nil_append]
  refine z_spec (fun hs => ?_)
  have m2 := hs 2 (by decide)
  refine z_al2 (pc' := 318) 71 rfl rfl ?_
  refine z_al0 (pc' := 319) 72 rfl rfl ?_
  refine z_il3 (pc' := 320) 73 rfl rfl ?_
  refine z_iconst (v := nI 1) (by decide) (pc' := 321) 74 rfl rfl ?_
  first | refine z_iaddN (pc' := 322) 75 rfl rfl ?_ | refine z_iadd (pc' := 322) 75 rfl rfl ?_
  refine z_iald7 (pc' := 323) 76 rfl rfl (by decide) (by exact m2) (by omega) (by omega) ?_
  refine z_al0 (pc' := 324) 77 rfl rfl ?_
  refine z_il3 (pc' := 325) 78 rfl rfl ?_
  refine z_iconst (v := nI 2) (by decide) (pc' := 326) 79 rfl rfl ?_
  first | refine z_iaddN (pc' := 327) 80 rfl rfl ?_ | refine z_iadd (pc' := 327) 80 rfl rfl ?_
  refine z_iald7 (pc' := 328) 81 rfl rfl (by decide) (by exact m2) (by omega) (by omega) ?_
  refine z_callV (pc' := 331) 82 rfl rfl k_Lw_22 (by exact mst_88 hs1.1) (c_Mo_girlOf hs1.1 _ _) (by decide) (by omega) (by omega) rfl rfl (Nat.le_of_ble_eq_true rfl) (fun r328 μ328 h328 => ?_)
  obtain ⟨mst2, fr2⟩ := mSt_K hs1 h328
  have e2 := h328.1
  subst e2
  dsimp only [Option.toList_some, List.cons_append, List.nil_append]
  refine z_spec (fun hs => ?_)
  have m2 := hs 2 (by decide)
  refine z_icmp_eq_t 83 rfl (tgt := 1789) rfl rfl ?_
  exact K _ ⟨cSt_fr cst1 fr2, mst2, h106, iRp_girlOf hr (zX G (i + 1)) (zX G (i + 2)), hr', htc⟩
set_option maxHeartbeats 4000000 in
set_option maxRecDepth 100000 in
theorem w_change {G : zG} {n u nF uF : Nat} {Φ : zP} {μ : Nat → va_E} {i : Nat} {κ κ' : zκ} {kf : Bool} {τ : zτ} {σ : zσ} {R : Nat} {rw : Nat → Int32} {b tk : Nat → Nat} {ln tc : Nat} {tr : Nat → Int32} (hI : Inv μ n ((κ, κ', kf), τ, σ, (R, rw), (b, ln, tk), (tc, tr))) (hi : i + 5 ≤ zL G) (hL : zL G ≤ 2560) (hn : n ≤ nF) (hu : u ≤ uF) (K : ∀ μ', Inv μ' n (((f_change κ (zX G (i + 1)) (zX G (i + 2)) (zX G (i + 3))).2, κ', kf), τ, σ, (R, rw), (b, ln, tk), (tc, tr)) → zW G 19 M_Lw_law 1789 [.ref 2, .ref 4, .ref 88, .int (nI i)] [] n u μ' nF uF Φ) : zW G 19 M_Lw_law 336 [.ref 2, .ref 4, .ref 88, .int (nI i)] [] n u μ nF uF Φ := by
  obtain ⟨hc, hm, h106, hr, hr', htc⟩ := hI
  have hc0 := hc
  obtain ⟨h1, h2, ⟨ac, h3, h3a⟩, h4, h5, h6, h7, h8, h9⟩ := hc
  refine z_spec (fun hs => ?_)
  have m2 := hs 2 (by decide)
  refine z_al1 (pc' := 337) 86 rfl rfl ?_
  refine z_al0 (pc' := 338) 87 rfl rfl ?_
  refine z_il3 (pc' := 339) 88 rfl rfl ?_
  refine z_iconst (v := nI 1) (by decide) (pc' := 340) 89 rfl rfl ?_
  first | refine z_iaddN (pc' := 341) 90 rfl rfl ?_ | refine z_iadd (pc' := 341) 90 rfl rfl ?_
  refine z_iald7 (pc' := 342) 91 rfl rfl (by decide) (by exact m2) (by omega) (by omega) ?_
  refine z_al0 (pc' := 343) 92 rfl rfl ?_
  refine z_il3 (pc' := 344) 93 rfl rfl ?_
  refine z_iconst (v := nI 2) (by decide) (pc' := 345) 94 rfl rfl ?_
  first | refine z_iaddN (pc' := 346) 95 rfl rfl ?_ | refine z_iadd (pc' := 346) 95 rfl rfl ?_
  refine z_iald7 (pc' := 347) 96 rfl rfl (by decide) (by exact m2) (by omega) (by omega) ?_
  refine z_al0 (pc' := 348) 97 rfl rfl ?_
  refine z_il3 (pc' := 349) 98 rfl rfl ?_
  refine z_iconst (v := nI 3) (by decide) (pc' := 350) 99 rfl rfl ?_
  first | refine z_iaddN (pc' := 351) 100 rfl rfl ?_ | refine z_iadd (pc' := 351) 100 rfl rfl ?_
  refine z_iald7 (pc' := 352) 101 rfl rfl (by decide) (by exact m2) (by omega) (by omega) ?_
  refine z_callV (pc' := 355) 102 rfl rfl k_Lw_23 (by exact h3) (c_Wb_change h1 h3 _ _ _) (by decide) (by omega) (by omega) rfl rfl (Nat.le_of_ble_eq_true rfl) (fun r352 μ352 h352 => ?_)
  obtain ⟨cst1, fr1⟩ := cSt_K hc0 h352
  have e1 := h352.1
  subst e1
  obtain ⟨s, hs1⟩ := mSt_fr hm (fun i a1 a2 => fr1 i a1)
  dsimp only [Option.toList_some, List.cons_append, List.nil_append]
  refine z_spec (fun hs => ?_)
  have m2 := hs 2 (by decide)
  refine z_al2 (pc' := 356) 103 rfl rfl ?_
  refine z_al0 (pc' := 357) 104 rfl rfl ?_
  refine z_il3 (pc' := 358) 105 rfl rfl ?_
  refine z_iconst (v := nI 1) (by decide) (pc' := 359) 106 rfl rfl ?_
  first | refine z_iaddN (pc' := 360) 107 rfl rfl ?_ | refine z_iadd (pc' := 360) 107 rfl rfl ?_
  refine z_iald7 (pc' := 361) 108 rfl rfl (by decide) (by exact m2) (by omega) (by omega) ?_
  refine z_al0 (pc' := 362) 109 rfl rfl ?_
  refine z_il3 (pc' := 363) 110 rfl rfl ?_
  refine z_iconst (v := nI 2) (by decide) (pc' := 364) 111 rfl rfl ?_
  first | refine z_iaddN (pc' := 365) 112 rfl rfl ?_ | refine z_iadd (pc' := 365) 112 rfl rfl ?_
  refine z_iald7 (pc' := 366) 113 rfl rfl (by decide) (by exact m2) (by omega) (by omega) ?_
  refine z_al0 (pc' := 367) 114 rfl rfl ?_
  refine z_il3 (pc' := 368) 115 rfl rfl ?_
  refine z_iconst (v := nI 3) (by decide) (pc' := 369) 116 rfl rfl ?_
  first | refine z_iaddN (pc' := 370) 117 rfl rfl ?_ | refine z_iadd (pc' := 370) 117 rfl rfl ?_
  refine z_iald7 (pc' := 371) 118 rfl rfl (by decide) (by exact m2) (by omega) (by omega) ?_
  refine z_callV (pc' := 374) 119 rfl rfl k_Lw_26 (by exact mst_88 hs1.1) (c_Mo_change hs1.1 _ _ _) (by decide) (by omega) (by omega) rfl rfl (Nat.le_of_ble_eq_true rfl) (fun r371 μ371 h371 => ?_)
  obtain ⟨mst2, fr2⟩ := mSt_K hs1 h371
  have e2 := h371.1
  subst e2
  dsimp only [Option.toList_some, List.cons_append, List.nil_append]
  refine z_spec (fun hs => ?_)
  have m2 := hs 2 (by decide)
  refine z_icmp_eq_t 120 rfl (tgt := 1789) rfl rfl ?_
  exact K _ ⟨cSt_fr cst1 fr2, mst2, h106, iRp_change hr (zX G (i + 1)) (zX G (i + 2)) (zX G (i + 3)), hr', htc⟩
set_option maxHeartbeats 4000000 in
set_option maxRecDepth 100000 in
theorem w_remake {G : zG} {n u nF uF : Nat} {Φ : zP} {μ : Nat → va_E} {i : Nat} {κ κ' : zκ} {kf : Bool} {τ : zτ} {σ : zσ} {R : Nat} {rw : Nat → Int32} {b tk : Nat → Nat} {ln tc : Nat} {tr : Nat → Int32} (hI : Inv μ n ((κ, κ', kf), τ, σ, (R, rw), (b, ln, tk), (tc, tr))) (hi : i + 5 ≤ zL G) (hL : zL G ≤ 2560) (hn : n ≤ nF) (hu : u ≤ uF) (K : ∀ μ', Inv μ' n (((f_remake κ (zX G (i + 1)) (zX G (i + 2))).2, κ', kf), τ, σ, (R, rw), (b, ln, tk), (tc, tr)) → zW G 19 M_Lw_law 1789 [.ref 2, .ref 4, .ref 88, .int (nI i)] [] n u μ' nF uF Φ) : zW G 19 M_Lw_law 379 [.ref 2, .ref 4, .ref 88, .int (nI i)] [] n u μ nF uF Φ := by
  obtain ⟨hc, hm, h106, hr, hr', htc⟩ := hI
  have hc0 := hc
  obtain ⟨h1, h2, ⟨ac, h3, h3a⟩, h4, h5, h6, h7, h8, h9⟩ := hc
  refine z_spec (fun hs => ?_)
  have m2 := hs 2 (by decide)
  refine z_al1 (pc' := 380) 123 rfl rfl ?_
  refine z_al0 (pc' := 381) 124 rfl rfl ?_
  refine z_il3 (pc' := 382) 125 rfl rfl ?_
  refine z_iconst (v := nI 1) (by decide) (pc' := 383) 126 rfl rfl ?_
  first | refine z_iaddN (pc' := 384) 127 rfl rfl ?_ | refine z_iadd (pc' := 384) 127 rfl rfl ?_
  refine z_iald7 (pc' := 385) 128 rfl rfl (by decide) (by exact m2) (by omega) (by omega) ?_
  refine z_al0 (pc' := 386) 129 rfl rfl ?_
  refine z_il3 (pc' := 387) 130 rfl rfl ?_
  refine z_iconst (v := nI 2) (by decide) (pc' := 388) 131 rfl rfl ?_
  first | refine z_iaddN (pc' := 389) 132 rfl rfl ?_ | refine z_iadd (pc' := 389) 132 rfl rfl ?_
  refine z_iald7 (pc' := 390) 133 rfl rfl (by decide) (by exact m2) (by omega) (by omega) ?_
  refine z_callV (pc' := 393) 134 rfl rfl k_Lw_27 (by exact h3) (c_Wb_remake h1 h3 _ _) (by decide) (by omega) (by omega) rfl rfl (Nat.le_of_ble_eq_true rfl) (fun r390 μ390 h390 => ?_)
  obtain ⟨cst1, fr1⟩ := cSt_K hc0 h390
  have e1 := h390.1
  subst e1
  obtain ⟨s, hs1⟩ := mSt_fr hm (fun i a1 a2 => fr1 i a1)
  dsimp only [Option.toList_some, List.cons_append, List.nil_append]
  refine z_spec (fun hs => ?_)
  have m2 := hs 2 (by decide)
  refine z_al2 (pc' := 394) 135 rfl rfl ?_
  refine z_al0 (pc' := 395) 136 rfl rfl ?_
  refine z_il3 (pc' := 396) 137 rfl rfl ?_
  refine z_iconst (v := nI 1) (by decide) (pc' := 397) 138 rfl rfl ?_
  first | refine z_iaddN (pc' := 398) 139 rfl rfl ?_ | refine z_iadd (pc' := 398) 139 rfl rfl ?_
  refine z_iald7 (pc' := 399) 140 rfl rfl (by decide) (by exact m2) (by omega) (by omega) ?_
  refine z_al0 (pc' := 400) 141 rfl rfl ?_
  refine z_il3 (pc' := 401) 142 rfl rfl ?_
  refine z_iconst (v := nI 2) (by decide) (pc' := 402) 143 rfl rfl ?_
  first | refine z_iaddN (pc' := 403) 144 rfl rfl ?_ | refine z_iadd (pc' := 403) 144 rfl rfl ?_
  refine z_iald7 (pc' := 404) 145 rfl rfl (by decide) (by exact m2) (by omega) (by omega) ?_
  refine z_callV (pc' := 407) 146 rfl rfl k_Lw_30 (by exact mst_88 hs1.1) (c_Mo_remake hs1.1 _ _) (by decide) (by omega) (by omega) rfl rfl (Nat.le_of_ble_eq_true rfl) (fun r404 μ404 h404 => ?_)
  obtain ⟨mst2, fr2⟩ := mSt_K hs1 h404
  have e2 := h404.1
  subst e2
  dsimp only [Option.toList_some, List.cons_append, List.nil_append]
  refine z_spec (fun hs => ?_)
  have m2 := hs 2 (by decide)
  refine z_icmp_eq_t 147 rfl (tgt := 1789) rfl rfl ?_
  exact K _ ⟨cSt_fr cst1 fr2, mst2, h106, iRp_remake hr (zX G (i + 1)) (zX G (i + 2)), hr', htc⟩
set_option maxHeartbeats 4000000 in
set_option maxRecDepth 100000 in
theorem w_wind {G : zG} {n u nF uF : Nat} {Φ : zP} {μ : Nat → va_E} {i : Nat} {κ κ' : zκ} {kf : Bool} {τ : zτ} {σ : zσ} {R : Nat} {rw : Nat → Int32} {b tk : Nat → Nat} {ln tc : Nat} {tr : Nat → Int32} (hI : Inv μ n ((κ, κ', kf), τ, σ, (R, rw), (b, ln, tk), (tc, tr))) (hi : i + 5 ≤ zL G) (hL : zL G ≤ 2560) (hn : n ≤ nF) (hu : u ≤ uF) (K : ∀ μ', Inv μ' n (((f_wind κ (zX G (i + 1)) (zX G (i + 2)) (zX G (i + 3)) (zX G (i + 4))).2, κ', kf), τ, σ, (R, rw), (b, ln, tk), (tc, tr)) → zW G 19 M_Lw_law 1789 [.ref 2, .ref 4, .ref 88, .int (nI i)] [] n u μ' nF uF Φ) : zW G 19 M_Lw_law 412 [.ref 2, .ref 4, .ref 88, .int (nI i)] [] n u μ nF uF Φ := by
  obtain ⟨hc, hm, h106, hr, hr', htc⟩ := hI
  have hc0 := hc
  obtain ⟨h1, h2, ⟨ac, h3, h3a⟩, h4, h5, h6, h7, h8, h9⟩ := hc
  refine z_spec (fun hs => ?_)
  have m2 := hs 2 (by decide)
  refine z_al1 (pc' := 413) 150 rfl rfl ?_
  refine z_al0 (pc' := 414) 151 rfl rfl ?_
  refine z_il3 (pc' := 415) 152 rfl rfl ?_
  refine z_iconst (v := nI 1) (by decide) (pc' := 416) 153 rfl rfl ?_
  first | refine z_iaddN (pc' := 417) 154 rfl rfl ?_ | refine z_iadd (pc' := 417) 154 rfl rfl ?_
  refine z_iald7 (pc' := 418) 155 rfl rfl (by decide) (by exact m2) (by omega) (by omega) ?_
  refine z_al0 (pc' := 419) 156 rfl rfl ?_
  refine z_il3 (pc' := 420) 157 rfl rfl ?_
  refine z_iconst (v := nI 2) (by decide) (pc' := 421) 158 rfl rfl ?_
  first | refine z_iaddN (pc' := 422) 159 rfl rfl ?_ | refine z_iadd (pc' := 422) 159 rfl rfl ?_
  refine z_iald7 (pc' := 423) 160 rfl rfl (by decide) (by exact m2) (by omega) (by omega) ?_
  refine z_al0 (pc' := 424) 161 rfl rfl ?_
  refine z_il3 (pc' := 425) 162 rfl rfl ?_
  refine z_iconst (v := nI 3) (by decide) (pc' := 426) 163 rfl rfl ?_
  first | refine z_iaddN (pc' := 427) 164 rfl rfl ?_ | refine z_iadd (pc' := 427) 164 rfl rfl ?_
  refine z_iald7 (pc' := 428) 165 rfl rfl (by decide) (by exact m2) (by omega) (by omega) ?_
  refine z_al0 (pc' := 429) 166 rfl rfl ?_
  refine z_il3 (pc' := 430) 167 rfl rfl ?_
  refine z_iconst (v := nI 4) (by decide) (pc' := 431) 168 rfl rfl ?_
  first | refine z_iaddN (pc' := 432) 169 rfl rfl ?_ | refine z_iadd (pc' := 432) 169 rfl rfl ?_
  refine z_iald7 (pc' := 433) 170 rfl rfl (by decide) (by exact m2) (by omega) (by omega) ?_
  refine z_callV (pc' := 436) 171 rfl rfl k_Lw_31 (by exact h3) (c_Wb_wind h1 h3 _ _ _ _) (by decide) (by omega) (by omega) rfl rfl (Nat.le_of_ble_eq_true rfl) (fun r433 μ433 h433 => ?_)
  obtain ⟨cst1, fr1⟩ := cSt_K hc0 h433
  have e1 := h433.1
  subst e1
  obtain ⟨s, hs1⟩ := mSt_fr hm (fun i a1 a2 => fr1 i a1)
  dsimp only [Option.toList_some, List.cons_append, List.nil_append]
  refine z_spec (fun hs => ?_)
  have m2 := hs 2 (by decide)
  refine z_al2 (pc' := 437) 172 rfl rfl ?_
  refine z_al0 (pc' := 438) 173 rfl rfl ?_
  refine z_il3 (pc' := 439) 174 rfl rfl ?_
  refine z_iconst (v := nI 1) (by decide) (pc' := 440) 175 rfl rfl ?_
  first | refine z_iaddN (pc' := 441) 176 rfl rfl ?_ | refine z_iadd (pc' := 441) 176 rfl rfl ?_
  refine z_iald7 (pc' := 442) 177 rfl rfl (by decide) (by exact m2) (by omega) (by omega) ?_
  refine z_al0 (pc' := 443) 178 rfl rfl ?_
  refine z_il3 (pc' := 444) 179 rfl rfl ?_
  refine z_iconst (v := nI 2) (by decide) (pc' := 445) 180 rfl rfl ?_
  first | refine z_iaddN (pc' := 446) 181 rfl rfl ?_ | refine z_iadd (pc' := 446) 181 rfl rfl ?_
  refine z_iald7 (pc' := 447) 182 rfl rfl (by decide) (by exact m2) (by omega) (by omega) ?_
  refine z_al0 (pc' := 448) 183 rfl rfl ?_
  refine z_il3 (pc' := 449) 184 rfl rfl ?_
  refine z_iconst (v := nI 3) (by decide) (pc' := 450) 185 rfl rfl ?_
  first | refine z_iaddN (pc' := 451) 186 rfl rfl ?_ | refine z_iadd (pc' := 451) 186 rfl rfl ?_
  refine z_iald7 (pc' := 452) 187 rfl rfl (by decide) (by exact m2) (by omega) (by omega) ?_
  refine z_al0 (pc' := 453) 188 rfl rfl ?_
  refine z_il3 (pc' := 454) 189 rfl rfl ?_
  refine z_iconst (v := nI 4) (by decide) (pc' := 455) 190 rfl rfl ?_
  first | refine z_iaddN (pc' := 456) 191 rfl rfl ?_ | refine z_iadd (pc' := 456) 191 rfl rfl ?_
  refine z_iald7 (pc' := 457) 192 rfl rfl (by decide) (by exact m2) (by omega) (by omega) ?_
  refine z_callV (pc' := 460) 193 rfl rfl k_Lw_35 (by exact mst_88 hs1.1) (c_Mo_wind hs1.1 _ _ _ _) (by decide) (by omega) (by omega) rfl rfl (Nat.le_of_ble_eq_true rfl) (fun r457 μ457 h457 => ?_)
  obtain ⟨mst2, fr2⟩ := mSt_K hs1 h457
  have e2 := h457.1
  subst e2
  dsimp only [Option.toList_some, List.cons_append, List.nil_append]
  refine z_spec (fun hs => ?_)
  have m2 := hs 2 (by decide)
  refine z_icmp_eq_t 194 rfl (tgt := 1789) rfl rfl ?_
  exact K _ ⟨cSt_fr cst1 fr2, mst2, h106, iRp_wind hr (zX G (i + 1)) (zX G (i + 2)) (zX G (i + 3)) (zX G (i + 4)), hr', htc⟩
set_option maxHeartbeats 4000000 in
set_option maxRecDepth 100000 in
theorem w_windOf {G : zG} {n u nF uF : Nat} {Φ : zP} {μ : Nat → va_E} {i : Nat} {κ κ' : zκ} {kf : Bool} {τ : zτ} {σ : zσ} {R : Nat} {rw : Nat → Int32} {b tk : Nat → Nat} {ln tc : Nat} {tr : Nat → Int32} (hI : Inv μ n ((κ, κ', kf), τ, σ, (R, rw), (b, ln, tk), (tc, tr))) (hi : i + 5 ≤ zL G) (hL : zL G ≤ 2560) (hn : n ≤ nF) (hu : u ≤ uF) (K : ∀ μ', Inv μ' n (((f_windOf κ (zX G (i + 1)) (zX G (i + 2))).2, κ', kf), τ, σ, (R, rw), (b, ln, tk), (tc, tr)) → zW G 19 M_Lw_law 1789 [.ref 2, .ref 4, .ref 88, .int (nI i)] [] n u μ' nF uF Φ) : zW G 19 M_Lw_law 465 [.ref 2, .ref 4, .ref 88, .int (nI i)] [] n u μ nF uF Φ := by
  obtain ⟨hc, hm, h106, hr, hr', htc⟩ := hI
  have hc0 := hc
  obtain ⟨h1, h2, ⟨ac, h3, h3a⟩, h4, h5, h6, h7, h8, h9⟩ := hc
  refine z_spec (fun hs => ?_)
  have m2 := hs 2 (by decide)
  refine z_al1 (pc' := 466) 197 rfl rfl ?_
  refine z_al0 (pc' := 467) 198 rfl rfl ?_
  refine z_il3 (pc' := 468) 199 rfl rfl ?_
  refine z_iconst (v := nI 1) (by decide) (pc' := 469) 200 rfl rfl ?_
  first | refine z_iaddN (pc' := 470) 201 rfl rfl ?_ | refine z_iadd (pc' := 470) 201 rfl rfl ?_
  refine z_iald7 (pc' := 471) 202 rfl rfl (by decide) (by exact m2) (by omega) (by omega) ?_
  refine z_al0 (pc' := 472) 203 rfl rfl ?_
  refine z_il3 (pc' := 473) 204 rfl rfl ?_
  refine z_iconst (v := nI 2) (by decide) (pc' := 474) 205 rfl rfl ?_
  first | refine z_iaddN (pc' := 475) 206 rfl rfl ?_ | refine z_iadd (pc' := 475) 206 rfl rfl ?_
  refine z_iald7 (pc' := 476) 207 rfl rfl (by decide) (by exact m2) (by omega) (by omega) ?_
  refine z_callV (pc' := 479) 208 rfl rfl k_Lw_36 (by exact h3) (c_Wb_windOf h1 h3 _ _) (by decide) (by omega) (by omega) rfl rfl (Nat.le_of_ble_eq_true rfl) (fun r476 μ476 h476 => ?_)
  obtain ⟨cst1, fr1⟩ := cSt_K hc0 h476
  have e1 := h476.1
  subst e1
  obtain ⟨s, hs1⟩ := mSt_fr hm (fun i a1 a2 => fr1 i a1)
  dsimp only [Option.toList_some, List.cons_append, List.nil_append]
  refine z_spec (fun hs => ?_)
  have m2 := hs 2 (by decide)
  refine z_al2 (pc' := 480) 209 rfl rfl ?_
  refine z_al0 (pc' := 481) 210 rfl rfl ?_
  refine z_il3 (pc' := 482) 211 rfl rfl ?_
  refine z_iconst (v := nI 1) (by decide) (pc' := 483) 212 rfl rfl ?_
  first | refine z_iaddN (pc' := 484) 213 rfl rfl ?_ | refine z_iadd (pc' := 484) 213 rfl rfl ?_
  refine z_iald7 (pc' := 485) 214 rfl rfl (by decide) (by exact m2) (by omega) (by omega) ?_
  refine z_al0 (pc' := 486) 215 rfl rfl ?_
  refine z_il3 (pc' := 487) 216 rfl rfl ?_
  refine z_iconst (v := nI 2) (by decide) (pc' := 488) 217 rfl rfl ?_
  first | refine z_iaddN (pc' := 489) 218 rfl rfl ?_ | refine z_iadd (pc' := 489) 218 rfl rfl ?_
  refine z_iald7 (pc' := 490) 219 rfl rfl (by decide) (by exact m2) (by omega) (by omega) ?_
  refine z_callV (pc' := 493) 220 rfl rfl k_Lw_39 (by exact mst_88 hs1.1) (c_Mo_windOf hs1.1 _ _) (by decide) (by omega) (by omega) rfl rfl (Nat.le_of_ble_eq_true rfl) (fun r490 μ490 h490 => ?_)
  obtain ⟨mst2, fr2⟩ := mSt_K hs1 h490
  have e2 := h490.1
  subst e2
  dsimp only [Option.toList_some, List.cons_append, List.nil_append]
  refine z_spec (fun hs => ?_)
  have m2 := hs 2 (by decide)
  refine z_icmp_eq_t 221 rfl (tgt := 1789) rfl rfl ?_
  exact K _ ⟨cSt_fr cst1 fr2, mst2, h106, iRp_windOf hr (zX G (i + 1)) (zX G (i + 2)), hr', htc⟩
set_option maxHeartbeats 4000000 in
set_option maxRecDepth 100000 in
theorem w_promise {G : zG} {n u nF uF : Nat} {Φ : zP} {μ : Nat → va_E} {i : Nat} {κ κ' : zκ} {kf : Bool} {τ : zτ} {σ : zσ} {R : Nat} {rw : Nat → Int32} {b tk : Nat → Nat} {ln tc : Nat} {tr : Nat → Int32} (hI : Inv μ n ((κ, κ', kf), τ, σ, (R, rw), (b, ln, tk), (tc, tr))) (hi : i + 5 ≤ zL G) (hL : zL G ≤ 2560) (hn : n ≤ nF) (hu : u ≤ uF) (K : ∀ μ', Inv μ' n (((f_promise κ (zX G (i + 1)) (zX G (i + 2))).2, κ', kf), τ, σ, (R, rw), (b, ln, tk), (tc, tr)) → zW G 19 M_Lw_law 1789 [.ref 2, .ref 4, .ref 88, .int (nI i)] [] n u μ' nF uF Φ) : zW G 19 M_Lw_law 498 [.ref 2, .ref 4, .ref 88, .int (nI i)] [] n u μ nF uF Φ := by
  obtain ⟨hc, hm, h106, hr, hr', htc⟩ := hI
  have hc0 := hc
  obtain ⟨h1, h2, ⟨ac, h3, h3a⟩, h4, h5, h6, h7, h8, h9⟩ := hc
  refine z_spec (fun hs => ?_)
  have m2 := hs 2 (by decide)
  refine z_al1 (pc' := 499) 224 rfl rfl ?_
  refine z_al0 (pc' := 500) 225 rfl rfl ?_
  refine z_il3 (pc' := 501) 226 rfl rfl ?_
  refine z_iconst (v := nI 1) (by decide) (pc' := 502) 227 rfl rfl ?_
  first | refine z_iaddN (pc' := 503) 228 rfl rfl ?_ | refine z_iadd (pc' := 503) 228 rfl rfl ?_
  refine z_iald7 (pc' := 504) 229 rfl rfl (by decide) (by exact m2) (by omega) (by omega) ?_
  refine z_al0 (pc' := 505) 230 rfl rfl ?_
  refine z_il3 (pc' := 506) 231 rfl rfl ?_
  refine z_iconst (v := nI 2) (by decide) (pc' := 507) 232 rfl rfl ?_
  first | refine z_iaddN (pc' := 508) 233 rfl rfl ?_ | refine z_iadd (pc' := 508) 233 rfl rfl ?_
  refine z_iald7 (pc' := 509) 234 rfl rfl (by decide) (by exact m2) (by omega) (by omega) ?_
  refine z_callV (pc' := 512) 235 rfl rfl k_Lw_40 (by exact h3) (c_Wb_promise h1 h3 _ _) (by decide) (by omega) (by omega) rfl rfl (Nat.le_of_ble_eq_true rfl) (fun r509 μ509 h509 => ?_)
  obtain ⟨cst1, fr1⟩ := cSt_K hc0 h509
  have e1 := h509.1
  subst e1
  obtain ⟨s, hs1⟩ := mSt_fr hm (fun i a1 a2 => fr1 i a1)
  dsimp only [Option.toList_some, List.cons_append, List.nil_append]
  refine z_spec (fun hs => ?_)
  have m2 := hs 2 (by decide)
  refine z_al2 (pc' := 513) 236 rfl rfl ?_
  refine z_al0 (pc' := 514) 237 rfl rfl ?_
  refine z_il3 (pc' := 515) 238 rfl rfl ?_
  refine z_iconst (v := nI 1) (by decide) (pc' := 516) 239 rfl rfl ?_
  first | refine z_iaddN (pc' := 517) 240 rfl rfl ?_ | refine z_iadd (pc' := 517) 240 rfl rfl ?_
  refine z_iald7 (pc' := 518) 241 rfl rfl (by decide) (by exact m2) (by omega) (by omega) ?_
  refine z_al0 (pc' := 519) 242 rfl rfl ?_
  refine z_il3 (pc' := 520) 243 rfl rfl ?_
  refine z_iconst (v := nI 2) (by decide) (pc' := 521) 244 rfl rfl ?_
  first | refine z_iaddN (pc' := 522) 245 rfl rfl ?_ | refine z_iadd (pc' := 522) 245 rfl rfl ?_
  refine z_iald7 (pc' := 523) 246 rfl rfl (by decide) (by exact m2) (by omega) (by omega) ?_
  refine z_callV (pc' := 526) 247 rfl rfl k_Lw_43 (by exact mst_88 hs1.1) (c_Mo_promise hs1.1 _ _) (by decide) (by omega) (by omega) rfl rfl (Nat.le_of_ble_eq_true rfl) (fun r523 μ523 h523 => ?_)
  obtain ⟨mst2, fr2⟩ := mSt_K hs1 h523
  have e2 := h523.1
  subst e2
  dsimp only [Option.toList_some, List.cons_append, List.nil_append]
  refine z_spec (fun hs => ?_)
  have m2 := hs 2 (by decide)
  refine z_icmp_eq_t 248 rfl (tgt := 1789) rfl rfl ?_
  exact K _ ⟨cSt_fr cst1 fr2, mst2, h106, iRp_promise hr (zX G (i + 1)) (zX G (i + 2)), hr', htc⟩
set_option maxHeartbeats 4000000 in
set_option maxRecDepth 100000 in
theorem w_gain {G : zG} {n u nF uF : Nat} {Φ : zP} {μ : Nat → va_E} {i : Nat} {κ κ' : zκ} {kf : Bool} {τ : zτ} {σ : zσ} {R : Nat} {rw : Nat → Int32} {b tk : Nat → Nat} {ln tc : Nat} {tr : Nat → Int32} (hI : Inv μ n ((κ, κ', kf), τ, σ, (R, rw), (b, ln, tk), (tc, tr))) (hi : i + 5 ≤ zL G) (hL : zL G ≤ 2560) (hn : n ≤ nF) (hu : u ≤ uF) (K : ∀ μ', Inv μ' n (((f_gain κ (zX G (i + 1)) (zX G (i + 2)) (zX G (i + 3))).2, κ', kf), τ, σ, (R, rw), (b, ln, tk), (tc, tr)) → zW G 19 M_Lw_law 1789 [.ref 2, .ref 4, .ref 88, .int (nI i)] [] n u μ' nF uF Φ) : zW G 19 M_Lw_law 531 [.ref 2, .ref 4, .ref 88, .int (nI i)] [] n u μ nF uF Φ := by
  obtain ⟨hc, hm, h106, hr, hr', htc⟩ := hI
  have hc0 := hc
  obtain ⟨h1, h2, ⟨ac, h3, h3a⟩, h4, h5, h6, h7, h8, h9⟩ := hc
  refine z_spec (fun hs => ?_)
  have m2 := hs 2 (by decide)
  refine z_al1 (pc' := 532) 251 rfl rfl ?_
  refine z_al0 (pc' := 533) 252 rfl rfl ?_
  refine z_il3 (pc' := 534) 253 rfl rfl ?_
  refine z_iconst (v := nI 1) (by decide) (pc' := 535) 254 rfl rfl ?_
  first | refine z_iaddN (pc' := 536) 255 rfl rfl ?_ | refine z_iadd (pc' := 536) 255 rfl rfl ?_
  refine z_iald7 (pc' := 537) 256 rfl rfl (by decide) (by exact m2) (by omega) (by omega) ?_
  refine z_al0 (pc' := 538) 257 rfl rfl ?_
  refine z_il3 (pc' := 539) 258 rfl rfl ?_
  refine z_iconst (v := nI 2) (by decide) (pc' := 540) 259 rfl rfl ?_
  first | refine z_iaddN (pc' := 541) 260 rfl rfl ?_ | refine z_iadd (pc' := 541) 260 rfl rfl ?_
  refine z_iald7 (pc' := 542) 261 rfl rfl (by decide) (by exact m2) (by omega) (by omega) ?_
  refine z_al0 (pc' := 543) 262 rfl rfl ?_
  refine z_il3 (pc' := 544) 263 rfl rfl ?_
  refine z_iconst (v := nI 3) (by decide) (pc' := 545) 264 rfl rfl ?_
  first | refine z_iaddN (pc' := 546) 265 rfl rfl ?_ | refine z_iadd (pc' := 546) 265 rfl rfl ?_
  refine z_iald7 (pc' := 547) 266 rfl rfl (by decide) (by exact m2) (by omega) (by omega) ?_
  refine z_callV (pc' := 550) 267 rfl rfl k_Lw_44 (by exact h3) (c_Wb_gain h1 h3 _ _ _) (by decide) (by omega) (by omega) rfl rfl (Nat.le_of_ble_eq_true rfl) (fun r547 μ547 h547 => ?_)
  obtain ⟨cst1, fr1⟩ := cSt_K hc0 h547
  have e1 := h547.1
  subst e1
  obtain ⟨s, hs1⟩ := mSt_fr hm (fun i a1 a2 => fr1 i a1)
  dsimp only [Option.toList_some, List.cons_append, List.nil_append]
  refine z_spec (fun hs => ?_)
  have m2 := hs 2 (by decide)
  refine z_al2 (pc' := 551) 268 rfl rfl ?_
  refine z_al0 (pc' := 552) 269 rfl rfl ?_
  refine z_il3 (pc' := 553) 270 rfl rfl ?_
  refine z_iconst (v := nI 1) (by decide) (pc' := 554) 271 rfl rfl ?_
  first | refine z_iaddN (pc' := 555) 272 rfl rfl ?_ | refine z_iadd (pc' := 555) 272 rfl rfl ?_
  refine z_iald7 (pc' := 556) 273 rfl rfl (by decide) (by exact m2) (by omega) (by omega) ?_
  refine z_al0 (pc' := 557) 274 rfl rfl ?_
  refine z_il3 (pc' := 558) 275 rfl rfl ?_
  refine z_iconst (v := nI 2) (by decide) (pc' := 559) 276 rfl rfl ?_
  first | refine z_iaddN (pc' := 560) 277 rfl rfl ?_ | refine z_iadd (pc' := 560) 277 rfl rfl ?_
  refine z_iald7 (pc' := 561) 278 rfl rfl (by decide) (by exact m2) (by omega) (by omega) ?_
  refine z_al0 (pc' := 562) 279 rfl rfl ?_
  refine z_il3 (pc' := 563) 280 rfl rfl ?_
  refine z_iconst (v := nI 3) (by decide) (pc' := 564) 281 rfl rfl ?_
  first | refine z_iaddN (pc' := 565) 282 rfl rfl ?_ | refine z_iadd (pc' := 565) 282 rfl rfl ?_
  refine z_iald7 (pc' := 566) 283 rfl rfl (by decide) (by exact m2) (by omega) (by omega) ?_
  refine z_callV (pc' := 569) 284 rfl rfl k_Lw_47 (by exact mst_88 hs1.1) (c_Mo_gain hs1.1 _ _ _) (by decide) (by omega) (by omega) rfl rfl (Nat.le_of_ble_eq_true rfl) (fun r566 μ566 h566 => ?_)
  obtain ⟨mst2, fr2⟩ := mSt_K hs1 h566
  have e2 := h566.1
  subst e2
  dsimp only [Option.toList_some, List.cons_append, List.nil_append]
  refine z_spec (fun hs => ?_)
  have m2 := hs 2 (by decide)
  refine z_icmp_eq_t 285 rfl (tgt := 1789) rfl rfl ?_
  exact K _ ⟨cSt_fr cst1 fr2, mst2, h106, iRp_gain hr (zX G (i + 1)) (zX G (i + 2)) (zX G (i + 3)), hr', htc⟩
set_option maxHeartbeats 4000000 in
set_option maxRecDepth 100000 in
theorem w_ends {G : zG} {n u nF uF : Nat} {Φ : zP} {μ : Nat → va_E} {i : Nat} {κ κ' : zκ} {kf : Bool} {τ : zτ} {σ : zσ} {R : Nat} {rw : Nat → Int32} {b tk : Nat → Nat} {ln tc : Nat} {tr : Nat → Int32} (hI : Inv μ n ((κ, κ', kf), τ, σ, (R, rw), (b, ln, tk), (tc, tr))) (hi : i + 5 ≤ zL G) (hL : zL G ≤ 2560) (hn : n ≤ nF) (hu : u ≤ uF) (K : ∀ μ', Inv μ' n (((f_ends κ (zX G (i + 1))).2, κ', kf), τ, σ, (R, rw), (b, ln, tk), (tc, tr)) → zW G 19 M_Lw_law 1789 [.ref 2, .ref 4, .ref 88, .int (nI i)] [] n u μ' nF uF Φ) : zW G 19 M_Lw_law 574 [.ref 2, .ref 4, .ref 88, .int (nI i)] [] n u μ nF uF Φ := by
  obtain ⟨hc, hm, h106, hr, hr', htc⟩ := hI
  have hc0 := hc
  obtain ⟨h1, h2, ⟨ac, h3, h3a⟩, h4, h5, h6, h7, h8, h9⟩ := hc
  refine z_spec (fun hs => ?_)
  have m2 := hs 2 (by decide)
  refine z_al1 (pc' := 575) 288 rfl rfl ?_
  refine z_al0 (pc' := 576) 289 rfl rfl ?_
  refine z_il3 (pc' := 577) 290 rfl rfl ?_
  refine z_iconst (v := nI 1) (by decide) (pc' := 578) 291 rfl rfl ?_
  first | refine z_iaddN (pc' := 579) 292 rfl rfl ?_ | refine z_iadd (pc' := 579) 292 rfl rfl ?_
  refine z_iald7 (pc' := 580) 293 rfl rfl (by decide) (by exact m2) (by omega) (by omega) ?_
  refine z_callV (pc' := 583) 294 rfl rfl k_Lw_48 (by exact h3) (c_Wb_ends h1 h3 _) (by decide) (by omega) (by omega) rfl rfl (Nat.le_of_ble_eq_true rfl) (fun r580 μ580 h580 => ?_)
  obtain ⟨cst1, fr1⟩ := cSt_K hc0 h580
  have e1 := h580.1
  subst e1
  obtain ⟨s, hs1⟩ := mSt_fr hm (fun i a1 a2 => fr1 i a1)
  dsimp only [Option.toList_some, List.cons_append, List.nil_append]
  refine z_spec (fun hs => ?_)
  have m2 := hs 2 (by decide)
  refine z_al2 (pc' := 584) 295 rfl rfl ?_
  refine z_al0 (pc' := 585) 296 rfl rfl ?_
  refine z_il3 (pc' := 586) 297 rfl rfl ?_
  refine z_iconst (v := nI 1) (by decide) (pc' := 587) 298 rfl rfl ?_
  first | refine z_iaddN (pc' := 588) 299 rfl rfl ?_ | refine z_iadd (pc' := 588) 299 rfl rfl ?_
  refine z_iald7 (pc' := 589) 300 rfl rfl (by decide) (by exact m2) (by omega) (by omega) ?_
  refine z_callV (pc' := 592) 301 rfl rfl k_Lw_52 (by exact mst_88 hs1.1) (c_Mo_ends hs1.1 _) (by decide) (by omega) (by omega) rfl rfl (Nat.le_of_ble_eq_true rfl) (fun r589 μ589 h589 => ?_)
  obtain ⟨mst2, fr2⟩ := mSt_K hs1 h589
  have e2 := h589.1
  subst e2
  dsimp only [Option.toList_some, List.cons_append, List.nil_append]
  refine z_spec (fun hs => ?_)
  have m2 := hs 2 (by decide)
  refine z_icmp_eq_t 302 rfl (tgt := 1789) rfl rfl ?_
  exact K _ ⟨cSt_fr cst1 fr2, mst2, h106, iRp_ends hr (zX G (i + 1)), hr', htc⟩
set_option maxHeartbeats 4000000 in
set_option maxRecDepth 100000 in
theorem w_anew {G : zG} {n u nF uF : Nat} {Φ : zP} {μ : Nat → va_E} {i : Nat} {κ κ' : zκ} {kf : Bool} {τ : zτ} {σ : zσ} {R : Nat} {rw : Nat → Int32} {b tk : Nat → Nat} {ln tc : Nat} {tr : Nat → Int32} (hI : Inv μ n ((κ, κ', kf), τ, σ, (R, rw), (b, ln, tk), (tc, tr))) (hi : i + 5 ≤ zL G) (hL : zL G ≤ 2560) (hn : n ≤ nF) (hu : u ≤ uF) (K : ∀ μ', Inv μ' n (((f_anew κ ).2, κ', kf), τ, σ, (R, rw), (b, ln, tk), (tc, tr)) → zW G 19 M_Lw_law 1789 [.ref 2, .ref 4, .ref 88, .int (nI i)] [] n u μ' nF uF Φ) : zW G 19 M_Lw_law 597 [.ref 2, .ref 4, .ref 88, .int (nI i)] [] n u μ nF uF Φ := by
  obtain ⟨hc, hm, h106, hr, hr', htc⟩ := hI
  have hc0 := hc
  obtain ⟨h1, h2, ⟨ac, h3, h3a⟩, h4, h5, h6, h7, h8, h9⟩ := hc
  refine z_spec (fun hs => ?_)
  have m2 := hs 2 (by decide)
  refine z_al1 (pc' := 598) 305 rfl rfl ?_
  refine z_callV (pc' := 601) 306 rfl rfl k_Lw_53 (by exact h3) (c_Wb_anew h1 h3 ) (by decide) (by omega) (by omega) rfl rfl (Nat.le_of_ble_eq_true rfl) (fun r598 μ598 h598 => ?_)
  obtain ⟨cst1, fr1⟩ := cSt_K hc0 h598
  have e1 := h598.1
  subst e1
  obtain ⟨s, hs1⟩ := mSt_fr hm (fun i a1 a2 => fr1 i a1)
  dsimp only [Option.toList_some, List.cons_append, List.nil_append]
  refine z_spec (fun hs => ?_)
  have m2 := hs 2 (by decide)
  refine z_al2 (pc' := 602) 307 rfl rfl ?_
  refine z_callV (pc' := 605) 308 rfl rfl k_Lw_57 (by exact mst_88 hs1.1) (c_Mo_anew hs1.1 ) (by decide) (by omega) (by omega) rfl rfl (Nat.le_of_ble_eq_true rfl) (fun r602 μ602 h602 => ?_)
  obtain ⟨mst2, fr2⟩ := mSt_K hs1 h602
  have e2 := h602.1
  subst e2
  dsimp only [Option.toList_some, List.cons_append, List.nil_append]
  refine z_spec (fun hs => ?_)
  have m2 := hs 2 (by decide)
  refine z_icmp_eq_t 309 rfl (tgt := 1789) rfl rfl ?_
  exact K _ ⟨cSt_fr cst1 fr2, mst2, h106, iRp_anew hr , hr', htc⟩
set_option maxHeartbeats 4000000 in
set_option maxRecDepth 100000 in
theorem w_state {G : zG} {n u nF uF : Nat} {Φ : zP} {μ : Nat → va_E} {i : Nat} {κ κ' : zκ} {kf : Bool} {τ : zτ} {σ : zσ} {R : Nat} {rw : Nat → Int32} {b tk : Nat → Nat} {ln tc : Nat} {tr : Nat → Int32} (hI : Inv μ n ((κ, κ', kf), τ, σ, (R, rw), (b, ln, tk), (tc, tr))) (hi : i + 5 ≤ zL G) (hL : zL G ≤ 2560) (hn : n ≤ nF) (hu : u ≤ uF) (K : ∀ μ', Inv μ' n (((f_state κ (zX G (i + 1))).2, κ', kf), τ, σ, (R, rw), (b, ln, tk), (tc, tr)) → zW G 19 M_Lw_law 1789 [.ref 2, .ref 4, .ref 88, .int (nI i)] [] n u μ' nF uF Φ) : zW G 19 M_Lw_law 610 [.ref 2, .ref 4, .ref 88, .int (nI i)] [] n u μ nF uF Φ := by
  obtain ⟨hc, hm, h106, hr, hr', htc⟩ := hI
  have hc0 := hc
  obtain ⟨h1, h2, ⟨ac, h3, h3a⟩, h4, h5, h6, h7, h8, h9⟩ := hc
  refine z_spec (fun hs => ?_)
  have m2 := hs 2 (by decide)
  refine z_al1 (pc' := 611) 312 rfl rfl ?_
  refine z_al0 (pc' := 612) 313 rfl rfl ?_
  refine z_il3 (pc' := 613) 314 rfl rfl ?_
  refine z_iconst (v := nI 1) (by decide) (pc' := 614) 315 rfl rfl ?_
  first | refine z_iaddN (pc' := 615) 316 rfl rfl ?_ | refine z_iadd (pc' := 615) 316 rfl rfl ?_
  refine z_iald7 (pc' := 616) 317 rfl rfl (by decide) (by exact m2) (by omega) (by omega) ?_
  refine z_callV (pc' := 619) 318 rfl rfl k_Lw_58 (by exact h3) (c_Wb_state h1 h3 _) (by decide) (by omega) (by omega) rfl rfl (Nat.le_of_ble_eq_true rfl) (fun r616 μ616 h616 => ?_)
  obtain ⟨cst1, fr1⟩ := cSt_K hc0 h616
  have e1 := h616.1
  subst e1
  obtain ⟨s, hs1⟩ := mSt_fr hm (fun i a1 a2 => fr1 i a1)
  dsimp only [Option.toList_some, List.cons_append, List.nil_append]
  refine z_spec (fun hs => ?_)
  have m2 := hs 2 (by decide)
  refine z_al2 (pc' := 620) 319 rfl rfl ?_
  refine z_al0 (pc' := 621) 320 rfl rfl ?_
  refine z_il3 (pc' := 622) 321 rfl rfl ?_
  refine z_iconst (v := nI 1) (by decide) (pc' := 623) 322 rfl rfl ?_
  first | refine z_iaddN (pc' := 624) 323 rfl rfl ?_ | refine z_iadd (pc' := 624) 323 rfl rfl ?_
  refine z_iald7 (pc' := 625) 324 rfl rfl (by decide) (by exact m2) (by omega) (by omega) ?_
  refine z_callV (pc' := 628) 325 rfl rfl k_Lw_61 (by exact mst_88 hs1.1) (c_Mo_state hs1.1 _) (by decide) (by omega) (by omega) rfl rfl (Nat.le_of_ble_eq_true rfl) (fun r625 μ625 h625 => ?_)
  obtain ⟨mst2, fr2⟩ := mSt_K hs1 h625
  have e2 := h625.1
  subst e2
  dsimp only [Option.toList_some, List.cons_append, List.nil_append]
  refine z_spec (fun hs => ?_)
  have m2 := hs 2 (by decide)
  refine z_icmp_eq_t 326 rfl (tgt := 1789) rfl rfl ?_
  exact K _ ⟨cSt_fr cst1 fr2, mst2, h106, iRp_state hr (zX G (i + 1)), hr', htc⟩
