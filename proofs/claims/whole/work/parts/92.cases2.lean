set_option maxHeartbeats 4000000 in
set_option maxRecDepth 100000 in
theorem w_month {G : zG} {n u nF uF : Nat} {Φ : zP} {μ : Nat → va_E} {i : Nat} {κ κ' : zκ} {kf : Bool} {τ : zτ} {σ : zσ} {R : Nat} {rw : Nat → Int32} {b tk : Nat → Nat} {ln tc : Nat} {tr : Nat → Int32} (hI : Inv μ n ((κ, κ', kf), τ, σ, (R, rw), (b, ln, tk), (tc, tr))) (hi : i + 5 ≤ zL G) (hL : zL G ≤ 2560) (hn : n ≤ nF) (hu : u ≤ uF) (K : ∀ μ', Inv μ' n (((f_month κ ).2, κ', kf), τ, σ, (R, rw), (b, ln, tk), (tc, tr)) → zW G 19 M_Lw_law 1789 [.ref 2, .ref 4, .ref 88, .int (nI i)] [] n u μ' nF uF Φ) : zW G 19 M_Lw_law 709 [.ref 2, .ref 4, .ref 88, .int (nI i)] [] n u μ nF uF Φ := by
  obtain ⟨hc, hm, h106, hr, hr', htc⟩ := hI
  have hc0 := hc
  obtain ⟨h1, h2, ⟨ac, h3, h3a⟩, h4, h5, h6, h7, h8, h9⟩ := hc
  refine z_spec (fun hs => ?_)
  have m2 := hs 2 (by decide)
  refine z_al1 (pc' := 710) 387 rfl rfl ?_
  refine z_callV (pc' := 713) 388 rfl rfl k_Lw_73 (by exact h3) (c_Wb_month h1 h3 ) (by decide) (by omega) (by omega) rfl rfl (Nat.le_of_ble_eq_true rfl) (fun r710 μ710 h710 => ?_)
  obtain ⟨cst1, fr1⟩ := cSt_K hc0 h710
  have e1 := h710.1
  subst e1
  obtain ⟨s, hs1⟩ := mSt_fr hm (fun i a1 a2 => fr1 i a1)
  dsimp only [Option.toList_some, List.cons_append, List.nil_append]
  refine z_spec (fun hs => ?_)
  have m2 := hs 2 (by decide)
  refine z_al2 (pc' := 714) 389 rfl rfl ?_
  refine z_callV (pc' := 717) 390 rfl rfl k_Lw_76 (by exact mst_88 hs1.1) (c_Mo_month hs1.1 ) (by decide) (by omega) (by omega) rfl rfl (Nat.le_of_ble_eq_true rfl) (fun r714 μ714 h714 => ?_)
  obtain ⟨mst2, fr2⟩ := mSt_K hs1 h714
  have e2 := h714.1
  subst e2
  dsimp only [Option.toList_some, List.cons_append, List.nil_append]
  refine z_spec (fun hs => ?_)
  have m2 := hs 2 (by decide)
  refine z_icmp_eq_t 391 rfl (tgt := 1789) rfl rfl ?_
  exact K _ ⟨cSt_fr cst1 fr2, mst2, h106, iRp_month hr , hr', htc⟩
set_option maxHeartbeats 4000000 in
set_option maxRecDepth 100000 in
theorem w_leave {G : zG} {n u nF uF : Nat} {Φ : zP} {μ : Nat → va_E} {i : Nat} {κ κ' : zκ} {kf : Bool} {τ : zτ} {σ : zσ} {R : Nat} {rw : Nat → Int32} {b tk : Nat → Nat} {ln tc : Nat} {tr : Nat → Int32} (hI : Inv μ n ((κ, κ', kf), τ, σ, (R, rw), (b, ln, tk), (tc, tr))) (hi : i + 5 ≤ zL G) (hL : zL G ≤ 2560) (hn : n ≤ nF) (hu : u ≤ uF) (K : ∀ μ', Inv μ' n (((f_leave κ ).2, κ', kf), τ, σ, (R, rw), (b, ln, tk), (tc, tr)) → zW G 19 M_Lw_law 1789 [.ref 2, .ref 4, .ref 88, .int (nI i)] [] n u μ' nF uF Φ) : zW G 19 M_Lw_law 837 [.ref 2, .ref 4, .ref 88, .int (nI i)] [] n u μ nF uF Φ := by
  obtain ⟨hc, hm, h106, hr, hr', htc⟩ := hI
  have hc0 := hc
  obtain ⟨h1, h2, ⟨ac, h3, h3a⟩, h4, h5, h6, h7, h8, h9⟩ := hc
  refine z_spec (fun hs => ?_)
  have m2 := hs 2 (by decide)
  refine z_al1 (pc' := 838) 479 rfl rfl ?_
  refine z_callV (pc' := 841) 480 rfl rfl k_Lw_97 (by exact h3) (c_Wb_leave h1 h3 ) (by decide) (by omega) (by omega) rfl rfl (Nat.le_of_ble_eq_true rfl) (fun r838 μ838 h838 => ?_)
  obtain ⟨cst1, fr1⟩ := cSt_K hc0 h838
  have e1 := h838.1
  subst e1
  obtain ⟨s, hs1⟩ := mSt_fr hm (fun i a1 a2 => fr1 i a1)
  dsimp only [Option.toList_some, List.cons_append, List.nil_append]
  refine z_spec (fun hs => ?_)
  have m2 := hs 2 (by decide)
  refine z_al2 (pc' := 842) 481 rfl rfl ?_
  refine z_callV (pc' := 845) 482 rfl rfl k_Lw_100 (by exact mst_88 hs1.1) (c_Mo_leave hs1.1 ) (by decide) (by omega) (by omega) rfl rfl (Nat.le_of_ble_eq_true rfl) (fun r842 μ842 h842 => ?_)
  obtain ⟨mst2, fr2⟩ := mSt_K hs1 h842
  have e2 := h842.1
  subst e2
  dsimp only [Option.toList_some, List.cons_append, List.nil_append]
  refine z_spec (fun hs => ?_)
  have m2 := hs 2 (by decide)
  refine z_icmp_eq_t 483 rfl (tgt := 1789) rfl rfl ?_
  exact K _ ⟨cSt_fr cst1 fr2, mst2, h106, iRp_leave hr , hr', htc⟩
set_option maxHeartbeats 4000000 in
set_option maxRecDepth 100000 in
theorem w_first {G : zG} {n u nF uF : Nat} {Φ : zP} {μ : Nat → va_E} {i : Nat} {κ κ' : zκ} {kf : Bool} {τ : zτ} {σ : zσ} {R : Nat} {rw : Nat → Int32} {b tk : Nat → Nat} {ln tc : Nat} {tr : Nat → Int32} (hI : Inv μ n ((κ, κ', kf), τ, σ, (R, rw), (b, ln, tk), (tc, tr))) (hi : i + 5 ≤ zL G) (hL : zL G ≤ 2560) (hn : n ≤ nF) (hu : u ≤ uF) (K : ∀ μ', Inv μ' n (((f_first κ ).2, κ', kf), τ, σ, (R, rw), (b, ln, tk), (tc, tr)) → zW G 19 M_Lw_law 1789 [.ref 2, .ref 4, .ref 88, .int (nI i)] [] n u μ' nF uF Φ) : zW G 19 M_Lw_law 850 [.ref 2, .ref 4, .ref 88, .int (nI i)] [] n u μ nF uF Φ := by
  obtain ⟨hc, hm, h106, hr, hr', htc⟩ := hI
  have hc0 := hc
  obtain ⟨h1, h2, ⟨ac, h3, h3a⟩, h4, h5, h6, h7, h8, h9⟩ := hc
  refine z_spec (fun hs => ?_)
  have m2 := hs 2 (by decide)
  refine z_al1 (pc' := 851) 486 rfl rfl ?_
  refine z_callV (pc' := 854) 487 rfl rfl k_Lw_101 (by exact h3) (c_Wb_first h1 h3 ) (by decide) (by omega) (by omega) rfl rfl (Nat.le_of_ble_eq_true rfl) (fun r851 μ851 h851 => ?_)
  obtain ⟨cst1, fr1⟩ := cSt_K hc0 h851
  have e1 := h851.1
  subst e1
  obtain ⟨s, hs1⟩ := mSt_fr hm (fun i a1 a2 => fr1 i a1)
  dsimp only [Option.toList_some, List.cons_append, List.nil_append]
  refine z_spec (fun hs => ?_)
  have m2 := hs 2 (by decide)
  refine z_al2 (pc' := 855) 488 rfl rfl ?_
  refine z_callV (pc' := 858) 489 rfl rfl k_Lw_104 (by exact mst_88 hs1.1) (c_Mo_first hs1.1 ) (by decide) (by omega) (by omega) rfl rfl (Nat.le_of_ble_eq_true rfl) (fun r855 μ855 h855 => ?_)
  obtain ⟨mst2, fr2⟩ := mSt_K hs1 h855
  have e2 := h855.1
  subst e2
  dsimp only [Option.toList_some, List.cons_append, List.nil_append]
  refine z_spec (fun hs => ?_)
  have m2 := hs 2 (by decide)
  refine z_icmp_eq_t 490 rfl (tgt := 1789) rfl rfl ?_
  exact K _ ⟨cSt_fr cst1 fr2, mst2, h106, iRp_first hr , hr', htc⟩
set_option maxHeartbeats 4000000 in
set_option maxRecDepth 100000 in
theorem w_kept {G : zG} {n u nF uF : Nat} {Φ : zP} {μ : Nat → va_E} {i : Nat} {κ κ' : zκ} {kf : Bool} {τ : zτ} {σ : zσ} {R : Nat} {rw : Nat → Int32} {b tk : Nat → Nat} {ln tc : Nat} {tr : Nat → Int32} (hI : Inv μ n ((κ, κ', kf), τ, σ, (R, rw), (b, ln, tk), (tc, tr))) (hi : i + 5 ≤ zL G) (hL : zL G ≤ 2560) (hn : n ≤ nF) (hu : u ≤ uF) (K : ∀ μ', Inv μ' n (((f_kept κ (zX G (i + 1))).2, κ', kf), τ, σ, (R, rw), (b, ln, tk), (tc, tr)) → zW G 19 M_Lw_law 1789 [.ref 2, .ref 4, .ref 88, .int (nI i)] [] n u μ' nF uF Φ) : zW G 19 M_Lw_law 863 [.ref 2, .ref 4, .ref 88, .int (nI i)] [] n u μ nF uF Φ := by
  obtain ⟨hc, hm, h106, hr, hr', htc⟩ := hI
  have hc0 := hc
  obtain ⟨h1, h2, ⟨ac, h3, h3a⟩, h4, h5, h6, h7, h8, h9⟩ := hc
  refine z_spec (fun hs => ?_)
  have m2 := hs 2 (by decide)
  refine z_al1 (pc' := 864) 493 rfl rfl ?_
  refine z_al0 (pc' := 865) 494 rfl rfl ?_
  refine z_il3 (pc' := 866) 495 rfl rfl ?_
  refine z_iconst (v := nI 1) (by decide) (pc' := 867) 496 rfl rfl ?_
  first | refine z_iaddN (pc' := 868) 497 rfl rfl ?_ | refine z_iadd (pc' := 868) 497 rfl rfl ?_
  refine z_iald7 (pc' := 869) 498 rfl rfl (by decide) (by exact m2) (by omega) (by omega) ?_
  refine z_callV (pc' := 872) 499 rfl rfl k_Lw_105 (by exact h3) (c_Wb_kept h1 h3 _) (by decide) (by omega) (by omega) rfl rfl (Nat.le_of_ble_eq_true rfl) (fun r869 μ869 h869 => ?_)
  obtain ⟨cst1, fr1⟩ := cSt_K hc0 h869
  have e1 := h869.1
  subst e1
  obtain ⟨s, hs1⟩ := mSt_fr hm (fun i a1 a2 => fr1 i a1)
  dsimp only [Option.toList_some, List.cons_append, List.nil_append]
  refine z_spec (fun hs => ?_)
  have m2 := hs 2 (by decide)
  refine z_al2 (pc' := 873) 500 rfl rfl ?_
  refine z_al0 (pc' := 874) 501 rfl rfl ?_
  refine z_il3 (pc' := 875) 502 rfl rfl ?_
  refine z_iconst (v := nI 1) (by decide) (pc' := 876) 503 rfl rfl ?_
  first | refine z_iaddN (pc' := 877) 504 rfl rfl ?_ | refine z_iadd (pc' := 877) 504 rfl rfl ?_
  refine z_iald7 (pc' := 878) 505 rfl rfl (by decide) (by exact m2) (by omega) (by omega) ?_
  refine z_callV (pc' := 881) 506 rfl rfl k_Lw_108 (by exact mst_88 hs1.1) (c_Mo_kept hs1.1 _) (by decide) (by omega) (by omega) rfl rfl (Nat.le_of_ble_eq_true rfl) (fun r878 μ878 h878 => ?_)
  obtain ⟨mst2, fr2⟩ := mSt_K hs1 h878
  have e2 := h878.1
  subst e2
  dsimp only [Option.toList_some, List.cons_append, List.nil_append]
  refine z_spec (fun hs => ?_)
  have m2 := hs 2 (by decide)
  refine z_icmp_eq_t 507 rfl (tgt := 1789) rfl rfl ?_
  exact K _ ⟨cSt_fr cst1 fr2, mst2, h106, iRp_kept hr (zX G (i + 1)), hr', htc⟩
set_option maxHeartbeats 4000000 in
set_option maxRecDepth 100000 in
theorem w_ring {G : zG} {n u nF uF : Nat} {Φ : zP} {μ : Nat → va_E} {i : Nat} {κ κ' : zκ} {kf : Bool} {τ : zτ} {σ : zσ} {R : Nat} {rw : Nat → Int32} {b tk : Nat → Nat} {ln tc : Nat} {tr : Nat → Int32} (hI : Inv μ n ((κ, κ', kf), τ, σ, (R, rw), (b, ln, tk), (tc, tr))) (hi : i + 5 ≤ zL G) (hL : zL G ≤ 2560) (hn : n ≤ nF) (hu : u ≤ uF) (K : ∀ μ', Inv μ' n (((f_ring κ (zX G (i + 1))).2, κ', kf), τ, σ, (R, rw), (b, ln, tk), (tc, tr)) → zW G 19 M_Lw_law 1789 [.ref 2, .ref 4, .ref 88, .int (nI i)] [] n u μ' nF uF Φ) : zW G 19 M_Lw_law 886 [.ref 2, .ref 4, .ref 88, .int (nI i)] [] n u μ nF uF Φ := by
  obtain ⟨hc, hm, h106, hr, hr', htc⟩ := hI
  have hc0 := hc
  obtain ⟨h1, h2, ⟨ac, h3, h3a⟩, h4, h5, h6, h7, h8, h9⟩ := hc
  refine z_spec (fun hs => ?_)
  have m2 := hs 2 (by decide)
  refine z_al1 (pc' := 887) 510 rfl rfl ?_
  refine z_al0 (pc' := 888) 511 rfl rfl ?_
  refine z_il3 (pc' := 889) 512 rfl rfl ?_
  refine z_iconst (v := nI 1) (by decide) (pc' := 890) 513 rfl rfl ?_
  first | refine z_iaddN (pc' := 891) 514 rfl rfl ?_ | refine z_iadd (pc' := 891) 514 rfl rfl ?_
  refine z_iald7 (pc' := 892) 515 rfl rfl (by decide) (by exact m2) (by omega) (by omega) ?_
  refine z_callV (pc' := 895) 516 rfl rfl k_Lw_109 (by exact h3) (c_Wb_ring h1 h3 _) (by decide) (by omega) (by omega) rfl rfl (Nat.le_of_ble_eq_true rfl) (fun r892 μ892 h892 => ?_)
  obtain ⟨cst1, fr1⟩ := cSt_K hc0 h892
  have e1 := h892.1
  subst e1
  obtain ⟨s, hs1⟩ := mSt_fr hm (fun i a1 a2 => fr1 i a1)
  dsimp only [Option.toList_some, List.cons_append, List.nil_append]
  refine z_spec (fun hs => ?_)
  have m2 := hs 2 (by decide)
  refine z_al2 (pc' := 896) 517 rfl rfl ?_
  refine z_al0 (pc' := 897) 518 rfl rfl ?_
  refine z_il3 (pc' := 898) 519 rfl rfl ?_
  refine z_iconst (v := nI 1) (by decide) (pc' := 899) 520 rfl rfl ?_
  first | refine z_iaddN (pc' := 900) 521 rfl rfl ?_ | refine z_iadd (pc' := 900) 521 rfl rfl ?_
  refine z_iald7 (pc' := 901) 522 rfl rfl (by decide) (by exact m2) (by omega) (by omega) ?_
  refine z_callV (pc' := 904) 523 rfl rfl k_Lw_112 (by exact mst_88 hs1.1) (c_Mo_ring hs1.1 _) (by decide) (by omega) (by omega) rfl rfl (Nat.le_of_ble_eq_true rfl) (fun r901 μ901 h901 => ?_)
  obtain ⟨mst2, fr2⟩ := mSt_K hs1 h901
  have e2 := h901.1
  subst e2
  dsimp only [Option.toList_some, List.cons_append, List.nil_append]
  refine z_spec (fun hs => ?_)
  have m2 := hs 2 (by decide)
  refine z_icmp_eq_t 524 rfl (tgt := 1789) rfl rfl ?_
  exact K _ ⟨cSt_fr cst1 fr2, mst2, h106, iRp_ring hr (zX G (i + 1)), hr', htc⟩
set_option maxHeartbeats 4000000 in
set_option maxRecDepth 100000 in
theorem w_seed {G : zG} {n u nF uF : Nat} {Φ : zP} {μ : Nat → va_E} {i : Nat} {κ κ' : zκ} {kf : Bool} {τ : zτ} {σ : zσ} {R : Nat} {rw : Nat → Int32} {b tk : Nat → Nat} {ln tc : Nat} {tr : Nat → Int32} (hI : Inv μ n ((κ, κ', kf), τ, σ, (R, rw), (b, ln, tk), (tc, tr))) (hi : i + 5 ≤ zL G) (hL : zL G ≤ 2560) (hn : n ≤ nF) (hu : u ≤ uF) (K : ∀ μ', Inv μ' n (((f_seed κ (zX G (i + 1))).2, κ', kf), τ, σ, (R, rw), (b, ln, tk), (tc, tr)) → zW G 19 M_Lw_law 1789 [.ref 2, .ref 4, .ref 88, .int (nI i)] [] n u μ' nF uF Φ) : zW G 19 M_Lw_law 1202 [.ref 2, .ref 4, .ref 88, .int (nI i)] [] n u μ nF uF Φ := by
  obtain ⟨hc, hm, h106, hr, hr', htc⟩ := hI
  have hc0 := hc
  obtain ⟨h1, h2, ⟨ac, h3, h3a⟩, h4, h5, h6, h7, h8, h9⟩ := hc
  refine z_spec (fun hs => ?_)
  have m2 := hs 2 (by decide)
  refine z_al1 (pc' := 1203) 754 rfl rfl ?_
  refine z_al0 (pc' := 1204) 755 rfl rfl ?_
  refine z_il3 (pc' := 1205) 756 rfl rfl ?_
  refine z_iconst (v := nI 1) (by decide) (pc' := 1206) 757 rfl rfl ?_
  first | refine z_iaddN (pc' := 1207) 758 rfl rfl ?_ | refine z_iadd (pc' := 1207) 758 rfl rfl ?_
  refine z_iald7 (pc' := 1208) 759 rfl rfl (by decide) (by exact m2) (by omega) (by omega) ?_
  refine z_callV (pc' := 1211) 760 rfl rfl k_Lw_157 (by exact h3) (c_Wb_seed h1 h3 _) (by decide) (by omega) (by omega) rfl rfl (Nat.le_of_ble_eq_true rfl) (fun r1208 μ1208 h1208 => ?_)
  obtain ⟨cst1, fr1⟩ := cSt_K hc0 h1208
  have e1 := h1208.1
  subst e1
  obtain ⟨s, hs1⟩ := mSt_fr hm (fun i a1 a2 => fr1 i a1)
  dsimp only [Option.toList_some, List.cons_append, List.nil_append]
  refine z_spec (fun hs => ?_)
  have m2 := hs 2 (by decide)
  refine z_al2 (pc' := 1212) 761 rfl rfl ?_
  refine z_al0 (pc' := 1213) 762 rfl rfl ?_
  refine z_il3 (pc' := 1214) 763 rfl rfl ?_
  refine z_iconst (v := nI 1) (by decide) (pc' := 1215) 764 rfl rfl ?_
  first | refine z_iaddN (pc' := 1216) 765 rfl rfl ?_ | refine z_iadd (pc' := 1216) 765 rfl rfl ?_
  refine z_iald7 (pc' := 1217) 766 rfl rfl (by decide) (by exact m2) (by omega) (by omega) ?_
  refine z_callV (pc' := 1220) 767 rfl rfl k_Lw_160 (by exact mst_88 hs1.1) (c_Mo_seed hs1.1 _) (by decide) (by omega) (by omega) rfl rfl (Nat.le_of_ble_eq_true rfl) (fun r1217 μ1217 h1217 => ?_)
  obtain ⟨mst2, fr2⟩ := mSt_K hs1 h1217
  have e2 := h1217.1
  subst e2
  dsimp only [Option.toList_some, List.cons_append, List.nil_append]
  refine z_spec (fun hs => ?_)
  have m2 := hs 2 (by decide)
  refine z_icmp_eq_t 768 rfl (tgt := 1789) rfl rfl ?_
  exact K _ ⟨cSt_fr cst1 fr2, mst2, h106, iRp_seed hr (zX G (i + 1)), hr', htc⟩
set_option maxHeartbeats 4000000 in
set_option maxRecDepth 100000 in
theorem w_lot {G : zG} {n u nF uF : Nat} {Φ : zP} {μ : Nat → va_E} {i : Nat} {κ κ' : zκ} {kf : Bool} {τ : zτ} {σ : zσ} {R : Nat} {rw : Nat → Int32} {b tk : Nat → Nat} {ln tc : Nat} {tr : Nat → Int32} (hI : Inv μ n ((κ, κ', kf), τ, σ, (R, rw), (b, ln, tk), (tc, tr))) (hi : i + 5 ≤ zL G) (hL : zL G ≤ 2560) (hn : n ≤ nF) (hu : u ≤ uF) (K : ∀ μ', Inv μ' n (((f_lot κ ).2, κ', kf), τ, σ, (R, rw), (b, ln, tk), (tc, tr)) → zW G 19 M_Lw_law 1789 [.ref 2, .ref 4, .ref 88, .int (nI i)] [] n u μ' nF uF Φ) : zW G 19 M_Lw_law 1225 [.ref 2, .ref 4, .ref 88, .int (nI i)] [] n u μ nF uF Φ := by
  obtain ⟨hc, hm, h106, hr, hr', htc⟩ := hI
  have hc0 := hc
  obtain ⟨h1, h2, ⟨ac, h3, h3a⟩, h4, h5, h6, h7, h8, h9⟩ := hc
  refine z_spec (fun hs => ?_)
  have m2 := hs 2 (by decide)
  refine z_al1 (pc' := 1226) 771 rfl rfl ?_
  refine z_callV (pc' := 1229) 772 rfl rfl k_Lw_161 (by exact h3) (c_Wb_lot h1 h3 ) (by decide) (by omega) (by omega) rfl rfl (Nat.le_of_ble_eq_true rfl) (fun r1226 μ1226 h1226 => ?_)
  obtain ⟨cst1, fr1⟩ := cSt_K hc0 h1226
  have e1 := h1226.1
  subst e1
  obtain ⟨s, hs1⟩ := mSt_fr hm (fun i a1 a2 => fr1 i a1)
  dsimp only [Option.toList_some, List.cons_append, List.nil_append]
  refine z_spec (fun hs => ?_)
  have m2 := hs 2 (by decide)
  refine z_al2 (pc' := 1230) 773 rfl rfl ?_
  refine z_callV (pc' := 1233) 774 rfl rfl k_Lw_164 (by exact mst_88 hs1.1) (c_Mo_lot hs1.1 ) (by decide) (by omega) (by omega) rfl rfl (Nat.le_of_ble_eq_true rfl) (fun r1230 μ1230 h1230 => ?_)
  obtain ⟨mst2, fr2⟩ := mSt_K hs1 h1230
  have e2 := h1230.1
  subst e2
  dsimp only [Option.toList_some, List.cons_append, List.nil_append]
  refine z_spec (fun hs => ?_)
  have m2 := hs 2 (by decide)
  refine z_icmp_eq_t 775 rfl (tgt := 1789) rfl rfl ?_
  exact K _ ⟨cSt_fr cst1 fr2, mst2, h106, iRp_lot hr , hr', htc⟩
set_option maxHeartbeats 4000000 in
set_option maxRecDepth 100000 in
theorem w_report {G : zG} {n u nF uF : Nat} {Φ : zP} {μ : Nat → va_E} {i : Nat} {κ κ' : zκ} {kf : Bool} {τ : zτ} {σ : zσ} {R : Nat} {rw : Nat → Int32} {b tk : Nat → Nat} {ln tc : Nat} {tr : Nat → Int32} (hI : Inv μ n ((κ, κ', kf), τ, σ, (R, rw), (b, ln, tk), (tc, tr))) (hi : i + 5 ≤ zL G) (hL : zL G ≤ 2560) (hn : n ≤ nF) (hu : u ≤ uF) (K : ∀ μ', Inv μ' n (((f_report κ (zX G (i + 1)) (zX G (i + 2)) (zX G (i + 3)) (zX G (i + 4))).2, κ', kf), τ, σ, (R, rw), (b, ln, tk), (tc, tr)) → zW G 19 M_Lw_law 1789 [.ref 2, .ref 4, .ref 88, .int (nI i)] [] n u μ' nF uF Φ) : zW G 19 M_Lw_law 1100 [.ref 2, .ref 4, .ref 88, .int (nI i)] [] n u μ nF uF Φ := by
  obtain ⟨hc, hm, h106, hr, hr', htc⟩ := hI
  have hc0 := hc
  obtain ⟨h1, h2, ⟨ac, h3, h3a⟩, h4, h5, h6, h7, h8, h9⟩ := hc
  refine z_spec (fun hs => ?_)
  have m2 := hs 2 (by decide)
  refine z_al1 (pc' := 1101) 676 rfl rfl ?_
  refine z_al0 (pc' := 1102) 677 rfl rfl ?_
  refine z_il3 (pc' := 1103) 678 rfl rfl ?_
  refine z_iconst (v := nI 1) (by decide) (pc' := 1104) 679 rfl rfl ?_
  first | refine z_iaddN (pc' := 1105) 680 rfl rfl ?_ | refine z_iadd (pc' := 1105) 680 rfl rfl ?_
  refine z_iald7 (pc' := 1106) 681 rfl rfl (by decide) (by exact m2) (by omega) (by omega) ?_
  refine z_al0 (pc' := 1107) 682 rfl rfl ?_
  refine z_il3 (pc' := 1108) 683 rfl rfl ?_
  refine z_iconst (v := nI 2) (by decide) (pc' := 1109) 684 rfl rfl ?_
  first | refine z_iaddN (pc' := 1110) 685 rfl rfl ?_ | refine z_iadd (pc' := 1110) 685 rfl rfl ?_
  refine z_iald7 (pc' := 1111) 686 rfl rfl (by decide) (by exact m2) (by omega) (by omega) ?_
  refine z_al0 (pc' := 1112) 687 rfl rfl ?_
  refine z_il3 (pc' := 1113) 688 rfl rfl ?_
  refine z_iconst (v := nI 3) (by decide) (pc' := 1114) 689 rfl rfl ?_
  first | refine z_iaddN (pc' := 1115) 690 rfl rfl ?_ | refine z_iadd (pc' := 1115) 690 rfl rfl ?_
  refine z_iald7 (pc' := 1116) 691 rfl rfl (by decide) (by exact m2) (by omega) (by omega) ?_
  refine z_al0 (pc' := 1117) 692 rfl rfl ?_
  refine z_il3 (pc' := 1118) 693 rfl rfl ?_
  refine z_iconst (v := nI 4) (by decide) (pc' := 1119) 694 rfl rfl ?_
  first | refine z_iaddN (pc' := 1120) 695 rfl rfl ?_ | refine z_iadd (pc' := 1120) 695 rfl rfl ?_
  refine z_iald7 (pc' := 1121) 696 rfl rfl (by decide) (by exact m2) (by omega) (by omega) ?_
  refine z_callV (pc' := 1124) 697 rfl rfl k_Lw_141 (by exact h3) (c_Wb_report h1 h3 _ _ _ _) (by decide) (by omega) (by omega) rfl rfl (Nat.le_of_ble_eq_true rfl) (fun r1121 μ1121 h1121 => ?_)
  obtain ⟨cst1, fr1⟩ := cSt_K hc0 h1121
  have e1 := h1121.1
  subst e1
  obtain ⟨s, hs1⟩ := mSt_fr hm (fun i a1 a2 => fr1 i a1)
  dsimp only [Option.toList_some, List.cons_append, List.nil_append]
  refine z_spec (fun hs => ?_)
  have m2 := hs 2 (by decide)
  refine z_al2 (pc' := 1125) 698 rfl rfl ?_
  refine z_al0 (pc' := 1126) 699 rfl rfl ?_
  refine z_il3 (pc' := 1127) 700 rfl rfl ?_
  refine z_iconst (v := nI 1) (by decide) (pc' := 1128) 701 rfl rfl ?_
  first | refine z_iaddN (pc' := 1129) 702 rfl rfl ?_ | refine z_iadd (pc' := 1129) 702 rfl rfl ?_
  refine z_iald7 (pc' := 1130) 703 rfl rfl (by decide) (by exact m2) (by omega) (by omega) ?_
  refine z_al0 (pc' := 1131) 704 rfl rfl ?_
  refine z_il3 (pc' := 1132) 705 rfl rfl ?_
  refine z_iconst (v := nI 2) (by decide) (pc' := 1133) 706 rfl rfl ?_
  first | refine z_iaddN (pc' := 1134) 707 rfl rfl ?_ | refine z_iadd (pc' := 1134) 707 rfl rfl ?_
  refine z_iald7 (pc' := 1135) 708 rfl rfl (by decide) (by exact m2) (by omega) (by omega) ?_
  refine z_al0 (pc' := 1136) 709 rfl rfl ?_
  refine z_il3 (pc' := 1137) 710 rfl rfl ?_
  refine z_iconst (v := nI 3) (by decide) (pc' := 1138) 711 rfl rfl ?_
  first | refine z_iaddN (pc' := 1139) 712 rfl rfl ?_ | refine z_iadd (pc' := 1139) 712 rfl rfl ?_
  refine z_iald7 (pc' := 1140) 713 rfl rfl (by decide) (by exact m2) (by omega) (by omega) ?_
  refine z_al0 (pc' := 1141) 714 rfl rfl ?_
  refine z_il3 (pc' := 1142) 715 rfl rfl ?_
  refine z_iconst (v := nI 4) (by decide) (pc' := 1143) 716 rfl rfl ?_
  first | refine z_iaddN (pc' := 1144) 717 rfl rfl ?_ | refine z_iadd (pc' := 1144) 717 rfl rfl ?_
  refine z_iald7 (pc' := 1145) 718 rfl rfl (by decide) (by exact m2) (by omega) (by omega) ?_
  refine z_callV (pc' := 1148) 719 rfl rfl k_Lw_144 (by exact mst_88 hs1.1) (c_Mo_report hs1.1 _ _ _ _) (by decide) (by omega) (by omega) rfl rfl (Nat.le_of_ble_eq_true rfl) (fun r1145 μ1145 h1145 => ?_)
  obtain ⟨mst2, fr2⟩ := mSt_K hs1 h1145
  have e2 := h1145.1
  subst e2
  dsimp only [Option.toList_some, List.cons_append, List.nil_append]
  refine z_spec (fun hs => ?_)
  have m2 := hs 2 (by decide)
  refine z_icmp_eq_t 720 rfl (tgt := 1789) rfl rfl ?_
  exact K _ ⟨cSt_fr cst1 fr2, mst2, h106, iRp_report hr (zX G (i + 1)) (zX G (i + 2)) (zX G (i + 3)) (zX G (i + 4)), hr', htc⟩
set_option maxHeartbeats 4000000 in
set_option maxRecDepth 100000 in
theorem w_forget {G : zG} {n u nF uF : Nat} {Φ : zP} {μ : Nat → va_E} {i : Nat} {κ κ' : zκ} {kf : Bool} {τ : zτ} {σ : zσ} {R : Nat} {rw : Nat → Int32} {b tk : Nat → Nat} {ln tc : Nat} {tr : Nat → Int32} (hI : Inv μ n ((κ, κ', kf), τ, σ, (R, rw), (b, ln, tk), (tc, tr))) (hi : i + 5 ≤ zL G) (hL : zL G ≤ 2560) (hn : n ≤ nF) (hu : u ≤ uF) (K : ∀ μ', Inv μ' n (((f_forget κ ).2, κ', kf), τ, σ, (R, rw), (b, ln, tk), (tc, tr)) → zW G 19 M_Lw_law 1789 [.ref 2, .ref 4, .ref 88, .int (nI i)] [] n u μ' nF uF Φ) : zW G 19 M_Lw_law 1153 [.ref 2, .ref 4, .ref 88, .int (nI i)] [] n u μ nF uF Φ := by
  obtain ⟨hc, hm, h106, hr, hr', htc⟩ := hI
  have hc0 := hc
  obtain ⟨h1, h2, ⟨ac, h3, h3a⟩, h4, h5, h6, h7, h8, h9⟩ := hc
  refine z_spec (fun hs => ?_)
  have m2 := hs 2 (by decide)
  refine z_al1 (pc' := 1154) 723 rfl rfl ?_
  refine z_callV (pc' := 1157) 724 rfl rfl k_Lw_145 (by exact h3) (c_Wb_forget h1 h3 ) (by decide) (by omega) (by omega) rfl rfl (Nat.le_of_ble_eq_true rfl) (fun r1154 μ1154 h1154 => ?_)
  obtain ⟨cst1, fr1⟩ := cSt_K hc0 h1154
  have e1 := h1154.1
  subst e1
  obtain ⟨s, hs1⟩ := mSt_fr hm (fun i a1 a2 => fr1 i a1)
  dsimp only [Option.toList_some, List.cons_append, List.nil_append]
  refine z_spec (fun hs => ?_)
  have m2 := hs 2 (by decide)
  refine z_al2 (pc' := 1158) 725 rfl rfl ?_
  refine z_callV (pc' := 1161) 726 rfl rfl k_Lw_148 (by exact mst_88 hs1.1) (c_Mo_forget hs1.1 ) (by decide) (by omega) (by omega) rfl rfl (Nat.le_of_ble_eq_true rfl) (fun r1158 μ1158 h1158 => ?_)
  obtain ⟨mst2, fr2⟩ := mSt_K hs1 h1158
  have e2 := h1158.1
  subst e2
  dsimp only [Option.toList_some, List.cons_append, List.nil_append]
  refine z_spec (fun hs => ?_)
  have m2 := hs 2 (by decide)
  refine z_icmp_eq_t 727 rfl (tgt := 1789) rfl rfl ?_
  exact K _ ⟨cSt_fr cst1 fr2, mst2, h106, iRp_forget hr , hr', htc⟩
set_option maxHeartbeats 4000000 in
set_option maxRecDepth 100000 in
theorem w_on {G : zG} {n u nF uF : Nat} {Φ : zP} {μ : Nat → va_E} {i : Nat} {κ κ' : zκ} {kf : Bool} {τ : zτ} {σ : zσ} {R : Nat} {rw : Nat → Int32} {b tk : Nat → Nat} {ln tc : Nat} {tr : Nat → Int32} (hI : Inv μ n ((κ, κ', kf), τ, σ, (R, rw), (b, ln, tk), (tc, tr))) (hi : i + 5 ≤ zL G) (hL : zL G ≤ 2560) (hn : n ≤ nF) (hu : u ≤ uF) (K : ∀ μ', Inv μ' n (((f_on κ (zX G (i + 1))).2, κ', kf), τ, σ, (R, rw), (b, ln, tk), (tc, tr)) → zW G 19 M_Lw_law 1789 [.ref 2, .ref 4, .ref 88, .int (nI i)] [] n u μ' nF uF Φ) : zW G 19 M_Lw_law 722 [.ref 2, .ref 4, .ref 88, .int (nI i)] [] n u μ nF uF Φ := by
  obtain ⟨hc, hm, h106, hr, hr', htc⟩ := hI
  have hc0 := hc
  obtain ⟨h1, h2, ⟨ac, h3, h3a⟩, h4, h5, h6, h7, h8, h9⟩ := hc
  refine z_spec (fun hs => ?_)
  have m2 := hs 2 (by decide)
  refine z_al1 (pc' := 723) 394 rfl rfl ?_
  refine z_al0 (pc' := 724) 395 rfl rfl ?_
  refine z_il3 (pc' := 725) 396 rfl rfl ?_
  refine z_iconst (v := nI 1) (by decide) (pc' := 726) 397 rfl rfl ?_
  first | refine z_iaddN (pc' := 727) 398 rfl rfl ?_ | refine z_iadd (pc' := 727) 398 rfl rfl ?_
  refine z_iald7 (pc' := 728) 399 rfl rfl (by decide) (by exact m2) (by omega) (by omega) ?_
  refine z_callV (pc' := 731) 400 rfl rfl k_Lw_77 (by exact h3) (c_Wb_on h1 h3 h4 _) (by decide) (by omega) (by omega) rfl rfl (Nat.le_of_ble_eq_true rfl) (fun r728 μ728 h728 => ?_)
  obtain ⟨cst1, fr1⟩ := cSt_Kt hc0 h728
  have e1 := h728.1
  subst e1
  obtain ⟨s, hs1⟩ := mSt_fr hm (fun i a1 a2 => fr1 i a1)
  dsimp only [Option.toList_some, List.cons_append, List.nil_append]
  refine z_spec (fun hs => ?_)
  have m2 := hs 2 (by decide)
  refine z_al2 (pc' := 732) 401 rfl rfl ?_
  refine z_al0 (pc' := 733) 402 rfl rfl ?_
  refine z_il3 (pc' := 734) 403 rfl rfl ?_
  refine z_iconst (v := nI 1) (by decide) (pc' := 735) 404 rfl rfl ?_
  first | refine z_iaddN (pc' := 736) 405 rfl rfl ?_ | refine z_iadd (pc' := 736) 405 rfl rfl ?_
  refine z_iald7 (pc' := 737) 406 rfl rfl (by decide) (by exact m2) (by omega) (by omega) ?_
  refine z_callV (pc' := 740) 407 rfl rfl k_Lw_80 (by exact mst_88 hs1.1) (c_Mo_on hs1.1 _) (by decide) (by omega) (by omega) rfl rfl (Nat.le_of_ble_eq_true rfl) (fun r737 μ737 h737 => ?_)
  obtain ⟨mst2, fr2⟩ := mSt_K hs1 h737
  have e2 := h737.1
  subst e2
  dsimp only [Option.toList_some, List.cons_append, List.nil_append]
  refine z_spec (fun hs => ?_)
  have m2 := hs 2 (by decide)
  refine z_icmp_eq_t 408 rfl (tgt := 1789) rfl rfl ?_
  exact K _ ⟨cSt_fr cst1 fr2, mst2, h106, iRp_on hr (zX G (i + 1)), hr', htc⟩
set_option maxHeartbeats 4000000 in
set_option maxRecDepth 100000 in
theorem w_courted {G : zG} {n u nF uF : Nat} {Φ : zP} {μ : Nat → va_E} {i : Nat} {κ κ' : zκ} {kf : Bool} {τ : zτ} {σ : zσ} {R : Nat} {rw : Nat → Int32} {b tk : Nat → Nat} {ln tc : Nat} {tr : Nat → Int32} (hI : Inv μ n ((κ, κ', kf), τ, σ, (R, rw), (b, ln, tk), (tc, tr))) (hi : i + 5 ≤ zL G) (hL : zL G ≤ 2560) (hn : n ≤ nF) (hu : u ≤ uF) (K : ∀ μ', Inv μ' n (((f_courted κ (zX G (i + 1))).2, κ', kf), τ, σ, (R, rw), (b, ln, tk), (tc, tr)) → zW G 19 M_Lw_law 1789 [.ref 2, .ref 4, .ref 88, .int (nI i)] [] n u μ' nF uF Φ) : zW G 19 M_Lw_law 745 [.ref 2, .ref 4, .ref 88, .int (nI i)] [] n u μ nF uF Φ := by
  obtain ⟨hc, hm, h106, hr, hr', htc⟩ := hI
  have hc0 := hc
  obtain ⟨h1, h2, ⟨ac, h3, h3a⟩, h4, h5, h6, h7, h8, h9⟩ := hc
  refine z_spec (fun hs => ?_)
  have m2 := hs 2 (by decide)
  refine z_al1 (pc' := 746) 411 rfl rfl ?_
  refine z_al0 (pc' := 747) 412 rfl rfl ?_
  refine z_il3 (pc' := 748) 413 rfl rfl ?_
  refine z_iconst (v := nI 1) (by decide) (pc' := 749) 414 rfl rfl ?_
  first | refine z_iaddN (pc' := 750) 415 rfl rfl ?_ | refine z_iadd (pc' := 750) 415 rfl rfl ?_
  refine z_iald7 (pc' := 751) 416 rfl rfl (by decide) (by exact m2) (by omega) (by omega) ?_
  refine z_callV (pc' := 754) 417 rfl rfl k_Lw_81 (by exact h3) (c_Wb_courted h1 h3 h4 _) (by decide) (by omega) (by omega) rfl rfl (Nat.le_of_ble_eq_true rfl) (fun r751 μ751 h751 => ?_)
  obtain ⟨cst1, fr1⟩ := cSt_Kt hc0 h751
  have e1 := h751.1
  subst e1
  obtain ⟨s, hs1⟩ := mSt_fr hm (fun i a1 a2 => fr1 i a1)
  dsimp only [Option.toList_some, List.cons_append, List.nil_append]
  refine z_spec (fun hs => ?_)
  have m2 := hs 2 (by decide)
  refine z_al2 (pc' := 755) 418 rfl rfl ?_
  refine z_al0 (pc' := 756) 419 rfl rfl ?_
  refine z_il3 (pc' := 757) 420 rfl rfl ?_
  refine z_iconst (v := nI 1) (by decide) (pc' := 758) 421 rfl rfl ?_
  first | refine z_iaddN (pc' := 759) 422 rfl rfl ?_ | refine z_iadd (pc' := 759) 422 rfl rfl ?_
  refine z_iald7 (pc' := 760) 423 rfl rfl (by decide) (by exact m2) (by omega) (by omega) ?_
  refine z_callV (pc' := 763) 424 rfl rfl k_Lw_84 (by exact mst_88 hs1.1) (c_Mo_courted hs1.1 _) (by decide) (by omega) (by omega) rfl rfl (Nat.le_of_ble_eq_true rfl) (fun r760 μ760 h760 => ?_)
  obtain ⟨mst2, fr2⟩ := mSt_K hs1 h760
  have e2 := h760.1
  subst e2
  dsimp only [Option.toList_some, List.cons_append, List.nil_append]
  refine z_spec (fun hs => ?_)
  have m2 := hs 2 (by decide)
  refine z_icmp_eq_t 425 rfl (tgt := 1789) rfl rfl ?_
  exact K _ ⟨cSt_fr cst1 fr2, mst2, h106, iRp_courted hr (zX G (i + 1)), hr', htc⟩
set_option maxHeartbeats 4000000 in
set_option maxRecDepth 100000 in
theorem w_breaks {G : zG} {n u nF uF : Nat} {Φ : zP} {μ : Nat → va_E} {i : Nat} {κ κ' : zκ} {kf : Bool} {τ : zτ} {σ : zσ} {R : Nat} {rw : Nat → Int32} {b tk : Nat → Nat} {ln tc : Nat} {tr : Nat → Int32} (hI : Inv μ n ((κ, κ', kf), τ, σ, (R, rw), (b, ln, tk), (tc, tr))) (hi : i + 5 ≤ zL G) (hL : zL G ≤ 2560) (hn : n ≤ nF) (hu : u ≤ uF) (K : ∀ μ', Inv μ' n (((f_breaks κ (zX G (i + 1))).2, κ', kf), τ, σ, (R, rw), (b, ln, tk), (tc, tr)) → zW G 19 M_Lw_law 1789 [.ref 2, .ref 4, .ref 88, .int (nI i)] [] n u μ' nF uF Φ) : zW G 19 M_Lw_law 768 [.ref 2, .ref 4, .ref 88, .int (nI i)] [] n u μ nF uF Φ := by
  obtain ⟨hc, hm, h106, hr, hr', htc⟩ := hI
  have hc0 := hc
  obtain ⟨h1, h2, ⟨ac, h3, h3a⟩, h4, h5, h6, h7, h8, h9⟩ := hc
  refine z_spec (fun hs => ?_)
  have m2 := hs 2 (by decide)
  refine z_al1 (pc' := 769) 428 rfl rfl ?_
  refine z_al0 (pc' := 770) 429 rfl rfl ?_
  refine z_il3 (pc' := 771) 430 rfl rfl ?_
  refine z_iconst (v := nI 1) (by decide) (pc' := 772) 431 rfl rfl ?_
  first | refine z_iaddN (pc' := 773) 432 rfl rfl ?_ | refine z_iadd (pc' := 773) 432 rfl rfl ?_
  refine z_iald7 (pc' := 774) 433 rfl rfl (by decide) (by exact m2) (by omega) (by omega) ?_
  refine z_callV (pc' := 777) 434 rfl rfl k_Lw_85 (by exact h3) (c_Wb_breaks h1 h3 h4 _) (by decide) (by omega) (by omega) rfl rfl (Nat.le_of_ble_eq_true rfl) (fun r774 μ774 h774 => ?_)
  obtain ⟨cst1, fr1⟩ := cSt_Kt hc0 h774
  have e1 := h774.1
  subst e1
  obtain ⟨s, hs1⟩ := mSt_fr hm (fun i a1 a2 => fr1 i a1)
  dsimp only [Option.toList_some, List.cons_append, List.nil_append]
  refine z_spec (fun hs => ?_)
  have m2 := hs 2 (by decide)
  refine z_al2 (pc' := 778) 435 rfl rfl ?_
  refine z_al0 (pc' := 779) 436 rfl rfl ?_
  refine z_il3 (pc' := 780) 437 rfl rfl ?_
  refine z_iconst (v := nI 1) (by decide) (pc' := 781) 438 rfl rfl ?_
  first | refine z_iaddN (pc' := 782) 439 rfl rfl ?_ | refine z_iadd (pc' := 782) 439 rfl rfl ?_
  refine z_iald7 (pc' := 783) 440 rfl rfl (by decide) (by exact m2) (by omega) (by omega) ?_
  refine z_callV (pc' := 786) 441 rfl rfl k_Lw_88 (by exact mst_88 hs1.1) (c_Mo_breaks hs1.1 _) (by decide) (by omega) (by omega) rfl rfl (Nat.le_of_ble_eq_true rfl) (fun r783 μ783 h783 => ?_)
  obtain ⟨mst2, fr2⟩ := mSt_K hs1 h783
  have e2 := h783.1
  subst e2
  dsimp only [Option.toList_some, List.cons_append, List.nil_append]
  refine z_spec (fun hs => ?_)
  have m2 := hs 2 (by decide)
  refine z_icmp_eq_t 442 rfl (tgt := 1789) rfl rfl ?_
  exact K _ ⟨cSt_fr cst1 fr2, mst2, h106, iRp_breaks hr (zX G (i + 1)), hr', htc⟩
set_option maxHeartbeats 4000000 in
set_option maxRecDepth 100000 in
theorem w_windFor {G : zG} {n u nF uF : Nat} {Φ : zP} {μ : Nat → va_E} {i : Nat} {κ κ' : zκ} {kf : Bool} {τ : zτ} {σ : zσ} {R : Nat} {rw : Nat → Int32} {b tk : Nat → Nat} {ln tc : Nat} {tr : Nat → Int32} (hI : Inv μ n ((κ, κ', kf), τ, σ, (R, rw), (b, ln, tk), (tc, tr))) (hi : i + 5 ≤ zL G) (hL : zL G ≤ 2560) (hn : n ≤ nF) (hu : u ≤ uF) (K : ∀ μ', Inv μ' n (((f_windFor κ (zX G (i + 1))).2, κ', kf), τ, σ, (R, rw), (b, ln, tk), (tc, tr)) → zW G 19 M_Lw_law 1789 [.ref 2, .ref 4, .ref 88, .int (nI i)] [] n u μ' nF uF Φ) : zW G 19 M_Lw_law 791 [.ref 2, .ref 4, .ref 88, .int (nI i)] [] n u μ nF uF Φ := by
  obtain ⟨hc, hm, h106, hr, hr', htc⟩ := hI
  have hc0 := hc
  obtain ⟨h1, h2, ⟨ac, h3, h3a⟩, h4, h5, h6, h7, h8, h9⟩ := hc
  refine z_spec (fun hs => ?_)
  have m2 := hs 2 (by decide)
  refine z_al1 (pc' := 792) 445 rfl rfl ?_
  refine z_al0 (pc' := 793) 446 rfl rfl ?_
  refine z_il3 (pc' := 794) 447 rfl rfl ?_
  refine z_iconst (v := nI 1) (by decide) (pc' := 795) 448 rfl rfl ?_
  first | refine z_iaddN (pc' := 796) 449 rfl rfl ?_ | refine z_iadd (pc' := 796) 449 rfl rfl ?_
  refine z_iald7 (pc' := 797) 450 rfl rfl (by decide) (by exact m2) (by omega) (by omega) ?_
  refine z_callV (pc' := 800) 451 rfl rfl k_Lw_89 (by exact h3) (c_Wb_windFor h1 h3 h4 _) (by decide) (by omega) (by omega) rfl rfl (Nat.le_of_ble_eq_true rfl) (fun r797 μ797 h797 => ?_)
  obtain ⟨cst1, fr1⟩ := cSt_Kt hc0 h797
  have e1 := h797.1
  subst e1
  obtain ⟨s, hs1⟩ := mSt_fr hm (fun i a1 a2 => fr1 i a1)
  dsimp only [Option.toList_some, List.cons_append, List.nil_append]
  refine z_spec (fun hs => ?_)
  have m2 := hs 2 (by decide)
  refine z_al2 (pc' := 801) 452 rfl rfl ?_
  refine z_al0 (pc' := 802) 453 rfl rfl ?_
  refine z_il3 (pc' := 803) 454 rfl rfl ?_
  refine z_iconst (v := nI 1) (by decide) (pc' := 804) 455 rfl rfl ?_
  first | refine z_iaddN (pc' := 805) 456 rfl rfl ?_ | refine z_iadd (pc' := 805) 456 rfl rfl ?_
  refine z_iald7 (pc' := 806) 457 rfl rfl (by decide) (by exact m2) (by omega) (by omega) ?_
  refine z_callV (pc' := 809) 458 rfl rfl k_Lw_92 (by exact mst_88 hs1.1) (c_Mo_windFor hs1.1 _) (by decide) (by omega) (by omega) rfl rfl (Nat.le_of_ble_eq_true rfl) (fun r806 μ806 h806 => ?_)
  obtain ⟨mst2, fr2⟩ := mSt_K hs1 h806
  have e2 := h806.1
  subst e2
  dsimp only [Option.toList_some, List.cons_append, List.nil_append]
  refine z_spec (fun hs => ?_)
  have m2 := hs 2 (by decide)
  refine z_icmp_eq_t 459 rfl (tgt := 1789) rfl rfl ?_
  exact K _ ⟨cSt_fr cst1 fr2, mst2, h106, iRp_windFor hr (zX G (i + 1)), hr', htc⟩
set_option maxHeartbeats 4000000 in
set_option maxRecDepth 100000 in
theorem w_dowryFor {G : zG} {n u nF uF : Nat} {Φ : zP} {μ : Nat → va_E} {i : Nat} {κ κ' : zκ} {kf : Bool} {τ : zτ} {σ : zσ} {R : Nat} {rw : Nat → Int32} {b tk : Nat → Nat} {ln tc : Nat} {tr : Nat → Int32} (hI : Inv μ n ((κ, κ', kf), τ, σ, (R, rw), (b, ln, tk), (tc, tr))) (hi : i + 5 ≤ zL G) (hL : zL G ≤ 2560) (hn : n ≤ nF) (hu : u ≤ uF) (K : ∀ μ', Inv μ' n (((f_dowryFor κ (zX G (i + 1))).2, κ', kf), τ, σ, (R, rw), (b, ln, tk), (tc, tr)) → zW G 19 M_Lw_law 1789 [.ref 2, .ref 4, .ref 88, .int (nI i)] [] n u μ' nF uF Φ) : zW G 19 M_Lw_law 814 [.ref 2, .ref 4, .ref 88, .int (nI i)] [] n u μ nF uF Φ := by
  obtain ⟨hc, hm, h106, hr, hr', htc⟩ := hI
  have hc0 := hc
  obtain ⟨h1, h2, ⟨ac, h3, h3a⟩, h4, h5, h6, h7, h8, h9⟩ := hc
  refine z_spec (fun hs => ?_)
  have m2 := hs 2 (by decide)
  refine z_al1 (pc' := 815) 462 rfl rfl ?_
  refine z_al0 (pc' := 816) 463 rfl rfl ?_
  refine z_il3 (pc' := 817) 464 rfl rfl ?_
  refine z_iconst (v := nI 1) (by decide) (pc' := 818) 465 rfl rfl ?_
  first | refine z_iaddN (pc' := 819) 466 rfl rfl ?_ | refine z_iadd (pc' := 819) 466 rfl rfl ?_
  refine z_iald7 (pc' := 820) 467 rfl rfl (by decide) (by exact m2) (by omega) (by omega) ?_
  refine z_callV (pc' := 823) 468 rfl rfl k_Lw_93 (by exact h3) (c_Wb_dowryFor h1 h3 h4 _) (by decide) (by omega) (by omega) rfl rfl (Nat.le_of_ble_eq_true rfl) (fun r820 μ820 h820 => ?_)
  obtain ⟨cst1, fr1⟩ := cSt_Kt hc0 h820
  have e1 := h820.1
  subst e1
  obtain ⟨s, hs1⟩ := mSt_fr hm (fun i a1 a2 => fr1 i a1)
  dsimp only [Option.toList_some, List.cons_append, List.nil_append]
  refine z_spec (fun hs => ?_)
  have m2 := hs 2 (by decide)
  refine z_al2 (pc' := 824) 469 rfl rfl ?_
  refine z_al0 (pc' := 825) 470 rfl rfl ?_
  refine z_il3 (pc' := 826) 471 rfl rfl ?_
  refine z_iconst (v := nI 1) (by decide) (pc' := 827) 472 rfl rfl ?_
  first | refine z_iaddN (pc' := 828) 473 rfl rfl ?_ | refine z_iadd (pc' := 828) 473 rfl rfl ?_
  refine z_iald7 (pc' := 829) 474 rfl rfl (by decide) (by exact m2) (by omega) (by omega) ?_
  refine z_callV (pc' := 832) 475 rfl rfl k_Lw_96 (by exact mst_88 hs1.1) (c_Mo_dowryFor hs1.1 _) (by decide) (by omega) (by omega) rfl rfl (Nat.le_of_ble_eq_true rfl) (fun r829 μ829 h829 => ?_)
  obtain ⟨mst2, fr2⟩ := mSt_K hs1 h829
  have e2 := h829.1
  subst e2
  dsimp only [Option.toList_some, List.cons_append, List.nil_append]
  refine z_spec (fun hs => ?_)
  have m2 := hs 2 (by decide)
  refine z_icmp_eq_t 476 rfl (tgt := 1789) rfl rfl ?_
  exact K _ ⟨cSt_fr cst1 fr2, mst2, h106, iRp_dowryFor hr (zX G (i + 1)), hr', htc⟩
set_option maxHeartbeats 4000000 in
set_option maxRecDepth 100000 in
theorem w_often {G : zG} {n u nF uF : Nat} {Φ : zP} {μ : Nat → va_E} {i : Nat} {κ κ' : zκ} {kf : Bool} {τ : zτ} {σ : zσ} {R : Nat} {rw : Nat → Int32} {b tk : Nat → Nat} {ln tc : Nat} {tr : Nat → Int32} (hI : Inv μ n ((κ, κ', kf), τ, σ, (R, rw), (b, ln, tk), (tc, tr))) (hi : i + 5 ≤ zL G) (hL : zL G ≤ 2560) (hn : n ≤ nF) (hu : u ≤ uF) (K : ∀ μ', Inv μ' n (((f_often κ (zX G (i + 1)) (zX G (i + 2))).2, κ', kf), τ, σ, (R, rw), (b, ln, tk), (tc, tr)) → zW G 19 M_Lw_law 1789 [.ref 2, .ref 4, .ref 88, .int (nI i)] [] n u μ' nF uF Φ) : zW G 19 M_Lw_law 1238 [.ref 2, .ref 4, .ref 88, .int (nI i)] [] n u μ nF uF Φ := by
  obtain ⟨hc, hm, h106, hr, hr', htc⟩ := hI
  have hc0 := hc
  obtain ⟨h1, h2, ⟨ac, h3, h3a⟩, h4, h5, h6, h7, h8, h9⟩ := hc
  refine z_spec (fun hs => ?_)
  have m2 := hs 2 (by decide)
  refine z_al1 (pc' := 1239) 778 rfl rfl ?_
  refine z_al0 (pc' := 1240) 779 rfl rfl ?_
  refine z_il3 (pc' := 1241) 780 rfl rfl ?_
  refine z_iconst (v := nI 1) (by decide) (pc' := 1242) 781 rfl rfl ?_
  first | refine z_iaddN (pc' := 1243) 782 rfl rfl ?_ | refine z_iadd (pc' := 1243) 782 rfl rfl ?_
  refine z_iald7 (pc' := 1244) 783 rfl rfl (by decide) (by exact m2) (by omega) (by omega) ?_
  refine z_al0 (pc' := 1245) 784 rfl rfl ?_
  refine z_il3 (pc' := 1246) 785 rfl rfl ?_
  refine z_iconst (v := nI 2) (by decide) (pc' := 1247) 786 rfl rfl ?_
  first | refine z_iaddN (pc' := 1248) 787 rfl rfl ?_ | refine z_iadd (pc' := 1248) 787 rfl rfl ?_
  refine z_iald7 (pc' := 1249) 788 rfl rfl (by decide) (by exact m2) (by omega) (by omega) ?_
  refine z_callV (pc' := 1252) 789 rfl rfl k_Lw_165 (by exact h3) (c_Wb_often h1 h3 h4 _ _) (by decide) (by omega) (by omega) rfl rfl (Nat.le_of_ble_eq_true rfl) (fun r1249 μ1249 h1249 => ?_)
  obtain ⟨cst1, fr1⟩ := cSt_Kt hc0 h1249
  have e1 := h1249.1
  subst e1
  obtain ⟨s, hs1⟩ := mSt_fr hm (fun i a1 a2 => fr1 i a1)
  dsimp only [Option.toList_some, List.cons_append, List.nil_append]
  refine z_spec (fun hs => ?_)
  have m2 := hs 2 (by decide)
  refine z_al2 (pc' := 1253) 790 rfl rfl ?_
  refine z_al0 (pc' := 1254) 791 rfl rfl ?_
  refine z_il3 (pc' := 1255) 792 rfl rfl ?_
  refine z_iconst (v := nI 1) (by decide) (pc' := 1256) 793 rfl rfl ?_
  first | refine z_iaddN (pc' := 1257) 794 rfl rfl ?_ | refine z_iadd (pc' := 1257) 794 rfl rfl ?_
  refine z_iald7 (pc' := 1258) 795 rfl rfl (by decide) (by exact m2) (by omega) (by omega) ?_
  refine z_al0 (pc' := 1259) 796 rfl rfl ?_
  refine z_il3 (pc' := 1260) 797 rfl rfl ?_
  refine z_iconst (v := nI 2) (by decide) (pc' := 1261) 798 rfl rfl ?_
  first | refine z_iaddN (pc' := 1262) 799 rfl rfl ?_ | refine z_iadd (pc' := 1262) 799 rfl rfl ?_
  refine z_iald7 (pc' := 1263) 800 rfl rfl (by decide) (by exact m2) (by omega) (by omega) ?_
  refine z_callV (pc' := 1266) 801 rfl rfl k_Lw_168 (by exact mst_88 hs1.1) (c_Mo_often hs1.1 _ _) (by decide) (by omega) (by omega) rfl rfl (Nat.le_of_ble_eq_true rfl) (fun r1263 μ1263 h1263 => ?_)
  obtain ⟨mst2, fr2⟩ := mSt_K hs1 h1263
  have e2 := h1263.1
  subst e2
  dsimp only [Option.toList_some, List.cons_append, List.nil_append]
  refine z_spec (fun hs => ?_)
  have m2 := hs 2 (by decide)
  refine z_icmp_eq_t 802 rfl (tgt := 1789) rfl rfl ?_
  exact K _ ⟨cSt_fr cst1 fr2, mst2, h106, iRp_often hr (zX G (i + 1)) (zX G (i + 2)), hr', htc⟩
set_option maxHeartbeats 4000000 in
set_option maxRecDepth 100000 in
theorem w_span {G : zG} {n u nF uF : Nat} {Φ : zP} {μ : Nat → va_E} {i : Nat} {κ κ' : zκ} {kf : Bool} {τ : zτ} {σ : zσ} {R : Nat} {rw : Nat → Int32} {b tk : Nat → Nat} {ln tc : Nat} {tr : Nat → Int32} (hI : Inv μ n ((κ, κ', kf), τ, σ, (R, rw), (b, ln, tk), (tc, tr))) (hi : i + 5 ≤ zL G) (hL : zL G ≤ 2560) (hn : n ≤ nF) (hu : u ≤ uF) (K : ∀ μ', Inv μ' n ((κ, κ', kf), τ, σ, (R, rw), (b, ln, tk), (tc, tr)) → zW G 19 M_Lw_law 1789 [.ref 2, .ref 4, .ref 88, .int (nI i)] [] n u μ' nF uF Φ) : zW G 19 M_Lw_law 1166 [.ref 2, .ref 4, .ref 88, .int (nI i)] [] n u μ nF uF Φ := by
  obtain ⟨hc, hm, h106, hr, hr', htc⟩ := hI
  have hc0 := hc
  obtain ⟨h1, h2, ⟨ac, h3, h3a⟩, h4, h5, h6, h7, h8, h9⟩ := hc
  refine z_spec (fun hs => ?_)
  have m2 := hs 2 (by decide)
  refine z_al1 (pc' := 1167) 730 rfl rfl ?_
  refine z_al0 (pc' := 1168) 731 rfl rfl ?_
  refine z_il3 (pc' := 1169) 732 rfl rfl ?_
  refine z_iconst (v := nI 1) (by decide) (pc' := 1170) 733 rfl rfl ?_
  first | refine z_iaddN (pc' := 1171) 734 rfl rfl ?_ | refine z_iadd (pc' := 1171) 734 rfl rfl ?_
  refine z_iald7 (pc' := 1172) 735 rfl rfl (by decide) (by exact m2) (by omega) (by omega) ?_
  refine z_callV (pc' := 1175) 736 rfl rfl k_Lw_149 (by exact h3) (c_Wb_span h1 h3 hr _) (by decide) (by omega) (by omega) rfl rfl (Nat.le_of_ble_eq_true rfl) (fun r1172 μ1172 h1172 => ?_)
  obtain ⟨cst1, fr1⟩ := cSt_K hc0 h1172
  have e1 := h1172.1
  subst e1
  obtain ⟨s, hs1⟩ := mSt_fr hm (fun i a1 a2 => fr1 i a1)
  dsimp only [Option.toList_some, List.cons_append, List.nil_append]
  refine z_spec (fun hs => ?_)
  have m2 := hs 2 (by decide)
  refine z_al2 (pc' := 1176) 737 rfl rfl ?_
  refine z_al0 (pc' := 1177) 738 rfl rfl ?_
  refine z_il3 (pc' := 1178) 739 rfl rfl ?_
  refine z_iconst (v := nI 1) (by decide) (pc' := 1179) 740 rfl rfl ?_
  first | refine z_iaddN (pc' := 1180) 741 rfl rfl ?_ | refine z_iadd (pc' := 1180) 741 rfl rfl ?_
  refine z_iald7 (pc' := 1181) 742 rfl rfl (by decide) (by exact m2) (by omega) (by omega) ?_
  refine z_callV (pc' := 1184) 743 rfl rfl k_Lw_152 (by exact mst_88 hs1.1) (c_Mo_span hs1.1 hr _) (by decide) (by omega) (by omega) rfl rfl (Nat.le_of_ble_eq_true rfl) (fun r1181 μ1181 h1181 => ?_)
  obtain ⟨mst2, fr2⟩ := mSt_K hs1 h1181
  have e2 := h1181.1
  subst e2
  dsimp only [Option.toList_some, List.cons_append, List.nil_append]
  refine z_spec (fun hs => ?_)
  have m2 := hs 2 (by decide)
  refine z_icmp_eq_t 744 rfl (tgt := 1789) rfl rfl ?_
  exact K _ ⟨cSt_fr cst1 fr2, mst2, h106, hr, hr', htc⟩
set_option maxHeartbeats 4000000 in
set_option maxRecDepth 100000 in
theorem w_liar {G : zG} {n u nF uF : Nat} {Φ : zP} {μ : Nat → va_E} {i : Nat} {κ κ' : zκ} {kf : Bool} {τ : zτ} {σ : zσ} {R : Nat} {rw : Nat → Int32} {b tk : Nat → Nat} {ln tc : Nat} {tr : Nat → Int32} (hI : Inv μ n ((κ, κ', kf), τ, σ, (R, rw), (b, ln, tk), (tc, tr))) (hi : i + 5 ≤ zL G) (hL : zL G ≤ 2560) (hn : n ≤ nF) (hu : u ≤ uF) (K : ∀ μ', Inv μ' n ((κ, κ', kf), τ, σ, (R, rw), (b, ln, tk), (tc, tr)) → zW G 19 M_Lw_law 1789 [.ref 2, .ref 4, .ref 88, .int (nI i)] [] n u μ' nF uF Φ) : zW G 19 M_Lw_law 1189 [.ref 2, .ref 4, .ref 88, .int (nI i)] [] n u μ nF uF Φ := by
  obtain ⟨hc, hm, h106, hr, hr', htc⟩ := hI
  have hc0 := hc
  obtain ⟨h1, h2, ⟨ac, h3, h3a⟩, h4, h5, h6, h7, h8, h9⟩ := hc
  refine z_spec (fun hs => ?_)
  have m2 := hs 2 (by decide)
  refine z_al1 (pc' := 1190) 747 rfl rfl ?_
  refine z_callV (pc' := 1193) 748 rfl rfl k_Lw_153 (by exact h3) (c_Wb_liar h1 h3 hr ) (by decide) (by omega) (by omega) rfl rfl (Nat.le_of_ble_eq_true rfl) (fun r1190 μ1190 h1190 => ?_)
  obtain ⟨cst1, fr1⟩ := cSt_K hc0 h1190
  have e1 := h1190.1
  subst e1
  obtain ⟨s, hs1⟩ := mSt_fr hm (fun i a1 a2 => fr1 i a1)
  dsimp only [Option.toList_some, List.cons_append, List.nil_append]
  refine z_spec (fun hs => ?_)
  have m2 := hs 2 (by decide)
  refine z_al2 (pc' := 1194) 749 rfl rfl ?_
  refine z_callV (pc' := 1197) 750 rfl rfl k_Lw_156 (by exact mst_88 hs1.1) (c_Mo_liar hs1.1 hr ) (by decide) (by omega) (by omega) rfl rfl (Nat.le_of_ble_eq_true rfl) (fun r1194 μ1194 h1194 => ?_)
  obtain ⟨mst2, fr2⟩ := mSt_K hs1 h1194
  have e2 := h1194.1
  subst e2
  dsimp only [Option.toList_some, List.cons_append, List.nil_append]
  refine z_spec (fun hs => ?_)
  have m2 := hs 2 (by decide)
  refine z_icmp_eq_t 751 rfl (tgt := 1789) rfl rfl ?_
  exact K _ ⟨cSt_fr cst1 fr2, mst2, h106, hr, hr', htc⟩
set_option maxHeartbeats 4000000 in
set_option maxRecDepth 100000 in
theorem w_best {G : zG} {n u nF uF : Nat} {Φ : zP} {μ : Nat → va_E} {i : Nat} {κ κ' : zκ} {kf : Bool} {τ : zτ} {σ : zσ} {R : Nat} {rw : Nat → Int32} {b tk : Nat → Nat} {ln tc : Nat} {tr : Nat → Int32} (hI : Inv μ n ((κ, κ', kf), τ, σ, (R, rw), (b, ln, tk), (tc, tr))) (hi : i + 5 ≤ zL G) (hL : zL G ≤ 2560) (hn : n ≤ nF) (hu : u ≤ uF) (K : ∀ μ', Inv μ' n ((κ, κ', kf), τ, σ, (R, rw), (b, ln, tk), (tc, tr)) → zW G 19 M_Lw_law 1789 [.ref 2, .ref 4, .ref 88, .int (nI i)] [] n u μ' nF uF Φ) : zW G 19 M_Lw_law 909 [.ref 2, .ref 4, .ref 88, .int (nI i)] [] n u μ nF uF Φ := by
  obtain ⟨hc, hm, h106, hr, hr', htc⟩ := hI
  have hc0 := hc
  obtain ⟨h1, h2, ⟨ac, h3, h3a⟩, h4, h5, h6, h7, h8, h9⟩ := hc
  refine z_spec (fun hs => ?_)
  have m2 := hs 2 (by decide)
  refine z_al1 (pc' := 910) 527 rfl rfl ?_
  refine z_al0 (pc' := 911) 528 rfl rfl ?_
  refine z_il3 (pc' := 912) 529 rfl rfl ?_
  refine z_iconst (v := nI 1) (by decide) (pc' := 913) 530 rfl rfl ?_
  first | refine z_iaddN (pc' := 914) 531 rfl rfl ?_ | refine z_iadd (pc' := 914) 531 rfl rfl ?_
  refine z_iald7 (pc' := 915) 532 rfl rfl (by decide) (by exact m2) (by omega) (by omega) ?_
  refine z_callV (pc' := 918) 533 rfl rfl k_Lw_113 (by exact h3) (c_Wb_best h1 h3 h5 _) (by decide) (by omega) (by omega) rfl rfl (Nat.le_of_ble_eq_true rfl) (fun r915 μ915 h915 => ?_)
  obtain ⟨cst1, fr1⟩ := cSt_Kp hc0 h915
  have e1 := h915.1
  subst e1
  obtain ⟨s, hs1⟩ := mSt_fr hm (fun i a1 a2 => fr1 i a1)
  dsimp only [Option.toList_some, List.cons_append, List.nil_append]
  refine z_spec (fun hs => ?_)
  have m2 := hs 2 (by decide)
  refine z_al2 (pc' := 919) 534 rfl rfl ?_
  refine z_al0 (pc' := 920) 535 rfl rfl ?_
  refine z_il3 (pc' := 921) 536 rfl rfl ?_
  refine z_iconst (v := nI 1) (by decide) (pc' := 922) 537 rfl rfl ?_
  first | refine z_iaddN (pc' := 923) 538 rfl rfl ?_ | refine z_iadd (pc' := 923) 538 rfl rfl ?_
  refine z_iald7 (pc' := 924) 539 rfl rfl (by decide) (by exact m2) (by omega) (by omega) ?_
  refine z_callV (pc' := 927) 540 rfl rfl k_Lw_116 (by exact mst_88 hs1.1) (c_Mo_best hs1.1 _) (by decide) (by omega) (by omega) rfl rfl (Nat.le_of_ble_eq_true rfl) (fun r924 μ924 h924 => ?_)
  obtain ⟨mst2, fr2⟩ := mSt_K hs1 h924
  have e2 := h924.1
  subst e2
  dsimp only [Option.toList_some, List.cons_append, List.nil_append]
  refine z_spec (fun hs => ?_)
  have m2 := hs 2 (by decide)
  refine z_icmp_eq_t 541 rfl (tgt := 1789) rfl rfl ?_
  exact K _ ⟨cSt_fr cst1 fr2, mst2, h106, hr, hr', htc⟩
set_option maxHeartbeats 4000000 in
set_option maxRecDepth 100000 in
theorem w_ith {G : zG} {n u nF uF : Nat} {Φ : zP} {μ : Nat → va_E} {i : Nat} {κ κ' : zκ} {kf : Bool} {τ : zτ} {σ : zσ} {R : Nat} {rw : Nat → Int32} {b tk : Nat → Nat} {ln tc : Nat} {tr : Nat → Int32} (hI : Inv μ n ((κ, κ', kf), τ, σ, (R, rw), (b, ln, tk), (tc, tr))) (hi : i + 5 ≤ zL G) (hL : zL G ≤ 2560) (hn : n ≤ nF) (hu : u ≤ uF) (K : ∀ μ', Inv μ' n ((κ, κ', kf), τ, σ, (R, rw), (b, ln, tk), (tc, tr)) → zW G 19 M_Lw_law 1789 [.ref 2, .ref 4, .ref 88, .int (nI i)] [] n u μ' nF uF Φ) : zW G 19 M_Lw_law 932 [.ref 2, .ref 4, .ref 88, .int (nI i)] [] n u μ nF uF Φ := by
  obtain ⟨hc, hm, h106, hr, hr', htc⟩ := hI
  have hc0 := hc
  obtain ⟨h1, h2, ⟨ac, h3, h3a⟩, h4, h5, h6, h7, h8, h9⟩ := hc
  refine z_spec (fun hs => ?_)
  have m2 := hs 2 (by decide)
  refine z_al1 (pc' := 933) 544 rfl rfl ?_
  refine z_al0 (pc' := 934) 545 rfl rfl ?_
  refine z_il3 (pc' := 935) 546 rfl rfl ?_
  refine z_iconst (v := nI 1) (by decide) (pc' := 936) 547 rfl rfl ?_
  first | refine z_iaddN (pc' := 937) 548 rfl rfl ?_ | refine z_iadd (pc' := 937) 548 rfl rfl ?_
  refine z_iald7 (pc' := 938) 549 rfl rfl (by decide) (by exact m2) (by omega) (by omega) ?_
  refine z_al0 (pc' := 939) 550 rfl rfl ?_
  refine z_il3 (pc' := 940) 551 rfl rfl ?_
  refine z_iconst (v := nI 2) (by decide) (pc' := 941) 552 rfl rfl ?_
  first | refine z_iaddN (pc' := 942) 553 rfl rfl ?_ | refine z_iadd (pc' := 942) 553 rfl rfl ?_
  refine z_iald7 (pc' := 943) 554 rfl rfl (by decide) (by exact m2) (by omega) (by omega) ?_
  refine z_callV (pc' := 946) 555 rfl rfl k_Lw_117 (by exact h3) (c_Wb_ith h1 h3 h5 _ _) (by decide) (by omega) (by omega) rfl rfl (Nat.le_of_ble_eq_true rfl) (fun r943 μ943 h943 => ?_)
  obtain ⟨cst1, fr1⟩ := cSt_Kp hc0 h943
  have e1 := h943.1
  subst e1
  obtain ⟨s, hs1⟩ := mSt_fr hm (fun i a1 a2 => fr1 i a1)
  dsimp only [Option.toList_some, List.cons_append, List.nil_append]
  refine z_spec (fun hs => ?_)
  have m2 := hs 2 (by decide)
  refine z_al2 (pc' := 947) 556 rfl rfl ?_
  refine z_al0 (pc' := 948) 557 rfl rfl ?_
  refine z_il3 (pc' := 949) 558 rfl rfl ?_
  refine z_iconst (v := nI 1) (by decide) (pc' := 950) 559 rfl rfl ?_
  first | refine z_iaddN (pc' := 951) 560 rfl rfl ?_ | refine z_iadd (pc' := 951) 560 rfl rfl ?_
  refine z_iald7 (pc' := 952) 561 rfl rfl (by decide) (by exact m2) (by omega) (by omega) ?_
  refine z_al0 (pc' := 953) 562 rfl rfl ?_
  refine z_il3 (pc' := 954) 563 rfl rfl ?_
  refine z_iconst (v := nI 2) (by decide) (pc' := 955) 564 rfl rfl ?_
  first | refine z_iaddN (pc' := 956) 565 rfl rfl ?_ | refine z_iadd (pc' := 956) 565 rfl rfl ?_
  refine z_iald7 (pc' := 957) 566 rfl rfl (by decide) (by exact m2) (by omega) (by omega) ?_
  refine z_callV (pc' := 960) 567 rfl rfl k_Lw_120 (by exact mst_88 hs1.1) (c_Mo_ith hs1.1 _ _) (by decide) (by omega) (by omega) rfl rfl (Nat.le_of_ble_eq_true rfl) (fun r957 μ957 h957 => ?_)
  obtain ⟨mst2, fr2⟩ := mSt_K hs1 h957
  have e2 := h957.1
  subst e2
  dsimp only [Option.toList_some, List.cons_append, List.nil_append]
  refine z_spec (fun hs => ?_)
  have m2 := hs 2 (by decide)
  refine z_icmp_eq_t 568 rfl (tgt := 1789) rfl rfl ?_
  exact K _ ⟨cSt_fr cst1 fr2, mst2, h106, hr, hr', htc⟩
set_option maxHeartbeats 4000000 in
set_option maxRecDepth 100000 in
theorem w_ways {G : zG} {n u nF uF : Nat} {Φ : zP} {μ : Nat → va_E} {i : Nat} {κ κ' : zκ} {kf : Bool} {τ : zτ} {σ : zσ} {R : Nat} {rw : Nat → Int32} {b tk : Nat → Nat} {ln tc : Nat} {tr : Nat → Int32} (hI : Inv μ n ((κ, κ', kf), τ, σ, (R, rw), (b, ln, tk), (tc, tr))) (hi : i + 5 ≤ zL G) (hL : zL G ≤ 2560) (hn : n ≤ nF) (hu : u ≤ uF) (K : ∀ μ', Inv μ' n ((κ, κ', kf), τ, σ, (R, rw), (b, ln, tk), (tc, tr)) → zW G 19 M_Lw_law 1789 [.ref 2, .ref 4, .ref 88, .int (nI i)] [] n u μ' nF uF Φ) : zW G 19 M_Lw_law 965 [.ref 2, .ref 4, .ref 88, .int (nI i)] [] n u μ nF uF Φ := by
  obtain ⟨hc, hm, h106, hr, hr', htc⟩ := hI
  have hc0 := hc
  obtain ⟨h1, h2, ⟨ac, h3, h3a⟩, h4, h5, h6, h7, h8, h9⟩ := hc
  refine z_spec (fun hs => ?_)
  have m2 := hs 2 (by decide)
  refine z_al1 (pc' := 966) 571 rfl rfl ?_
  refine z_al0 (pc' := 967) 572 rfl rfl ?_
  refine z_il3 (pc' := 968) 573 rfl rfl ?_
  refine z_iconst (v := nI 1) (by decide) (pc' := 969) 574 rfl rfl ?_
  first | refine z_iaddN (pc' := 970) 575 rfl rfl ?_ | refine z_iadd (pc' := 970) 575 rfl rfl ?_
  refine z_iald7 (pc' := 971) 576 rfl rfl (by decide) (by exact m2) (by omega) (by omega) ?_
  refine z_callV (pc' := 974) 577 rfl rfl k_Lw_121 (by exact h3) (c_Wb_ways h1 h3 h5 _) (by decide) (by omega) (by omega) rfl rfl (Nat.le_of_ble_eq_true rfl) (fun r971 μ971 h971 => ?_)
  obtain ⟨cst1, fr1⟩ := cSt_Kp hc0 h971
  have e1 := h971.1
  subst e1
  obtain ⟨s, hs1⟩ := mSt_fr hm (fun i a1 a2 => fr1 i a1)
  dsimp only [Option.toList_some, List.cons_append, List.nil_append]
  refine z_spec (fun hs => ?_)
  have m2 := hs 2 (by decide)
  refine z_al2 (pc' := 975) 578 rfl rfl ?_
  refine z_al0 (pc' := 976) 579 rfl rfl ?_
  refine z_il3 (pc' := 977) 580 rfl rfl ?_
  refine z_iconst (v := nI 1) (by decide) (pc' := 978) 581 rfl rfl ?_
  first | refine z_iaddN (pc' := 979) 582 rfl rfl ?_ | refine z_iadd (pc' := 979) 582 rfl rfl ?_
  refine z_iald7 (pc' := 980) 583 rfl rfl (by decide) (by exact m2) (by omega) (by omega) ?_
  refine z_callV (pc' := 983) 584 rfl rfl k_Lw_124 (by exact mst_88 hs1.1) (c_Mo_ways hs1.1 _) (by decide) (by omega) (by omega) rfl rfl (Nat.le_of_ble_eq_true rfl) (fun r980 μ980 h980 => ?_)
  obtain ⟨mst2, fr2⟩ := mSt_K hs1 h980
  have e2 := h980.1
  subst e2
  dsimp only [Option.toList_some, List.cons_append, List.nil_append]
  refine z_spec (fun hs => ?_)
  have m2 := hs 2 (by decide)
  refine z_icmp_eq_t 585 rfl (tgt := 1789) rfl rfl ?_
  exact K _ ⟨cSt_fr cst1 fr2, mst2, h106, hr, hr', htc⟩
set_option maxHeartbeats 4000000 in
set_option maxRecDepth 100000 in
theorem w_bound {G : zG} {n u nF uF : Nat} {Φ : zP} {μ : Nat → va_E} {i : Nat} {κ κ' : zκ} {kf : Bool} {τ : zτ} {σ : zσ} {R : Nat} {rw : Nat → Int32} {b tk : Nat → Nat} {ln tc : Nat} {tr : Nat → Int32} (hI : Inv μ n ((κ, κ', kf), τ, σ, (R, rw), (b, ln, tk), (tc, tr))) (hi : i + 5 ≤ zL G) (hL : zL G ≤ 2560) (hn : n ≤ nF) (hu : u ≤ uF) (K : ∀ μ', Inv μ' n ((κ, κ', kf), τ, σ, (R, rw), (b, ln, tk), (tc, tr)) → zW G 19 M_Lw_law 1789 [.ref 2, .ref 4, .ref 88, .int (nI i)] [] n u μ' nF uF Φ) : zW G 19 M_Lw_law 988 [.ref 2, .ref 4, .ref 88, .int (nI i)] [] n u μ nF uF Φ := by
  obtain ⟨hc, hm, h106, hr, hr', htc⟩ := hI
  have hc0 := hc
  obtain ⟨h1, h2, ⟨ac, h3, h3a⟩, h4, h5, h6, h7, h8, h9⟩ := hc
  refine z_spec (fun hs => ?_)
  have m2 := hs 2 (by decide)
  refine z_al1 (pc' := 989) 588 rfl rfl ?_
  refine z_al0 (pc' := 990) 589 rfl rfl ?_
  refine z_il3 (pc' := 991) 590 rfl rfl ?_
  refine z_iconst (v := nI 1) (by decide) (pc' := 992) 591 rfl rfl ?_
  first | refine z_iaddN (pc' := 993) 592 rfl rfl ?_ | refine z_iadd (pc' := 993) 592 rfl rfl ?_
  refine z_iald7 (pc' := 994) 593 rfl rfl (by decide) (by exact m2) (by omega) (by omega) ?_
  refine z_al0 (pc' := 995) 594 rfl rfl ?_
  refine z_il3 (pc' := 996) 595 rfl rfl ?_
  refine z_iconst (v := nI 2) (by decide) (pc' := 997) 596 rfl rfl ?_
  first | refine z_iaddN (pc' := 998) 597 rfl rfl ?_ | refine z_iadd (pc' := 998) 597 rfl rfl ?_
  refine z_iald7 (pc' := 999) 598 rfl rfl (by decide) (by exact m2) (by omega) (by omega) ?_
  refine z_callV (pc' := 1002) 599 rfl rfl k_Lw_125 (by exact h3) (c_Wb_bound h1 h3 h5 _ _) (by decide) (by omega) (by omega) rfl rfl (Nat.le_of_ble_eq_true rfl) (fun r999 μ999 h999 => ?_)
  obtain ⟨cst1, fr1⟩ := cSt_Kp hc0 h999
  have e1 := h999.1
  subst e1
  obtain ⟨s, hs1⟩ := mSt_fr hm (fun i a1 a2 => fr1 i a1)
  dsimp only [Option.toList_some, List.cons_append, List.nil_append]
  refine z_spec (fun hs => ?_)
  have m2 := hs 2 (by decide)
  refine z_al2 (pc' := 1003) 600 rfl rfl ?_
  refine z_al0 (pc' := 1004) 601 rfl rfl ?_
  refine z_il3 (pc' := 1005) 602 rfl rfl ?_
  refine z_iconst (v := nI 1) (by decide) (pc' := 1006) 603 rfl rfl ?_
  first | refine z_iaddN (pc' := 1007) 604 rfl rfl ?_ | refine z_iadd (pc' := 1007) 604 rfl rfl ?_
  refine z_iald7 (pc' := 1008) 605 rfl rfl (by decide) (by exact m2) (by omega) (by omega) ?_
  refine z_al0 (pc' := 1009) 606 rfl rfl ?_
  refine z_il3 (pc' := 1010) 607 rfl rfl ?_
  refine z_iconst (v := nI 2) (by decide) (pc' := 1011) 608 rfl rfl ?_
  first | refine z_iaddN (pc' := 1012) 609 rfl rfl ?_ | refine z_iadd (pc' := 1012) 609 rfl rfl ?_
  refine z_iald7 (pc' := 1013) 610 rfl rfl (by decide) (by exact m2) (by omega) (by omega) ?_
  refine z_callV (pc' := 1016) 611 rfl rfl k_Lw_128 (by exact mst_88 hs1.1) (c_Mo_bound hs1.1 _ _) (by decide) (by omega) (by omega) rfl rfl (Nat.le_of_ble_eq_true rfl) (fun r1013 μ1013 h1013 => ?_)
  obtain ⟨mst2, fr2⟩ := mSt_K hs1 h1013
  have e2 := h1013.1
  subst e2
  dsimp only [Option.toList_some, List.cons_append, List.nil_append]
  refine z_spec (fun hs => ?_)
  have m2 := hs 2 (by decide)
  refine z_icmp_eq_t 612 rfl (tgt := 1789) rfl rfl ?_
  exact K _ ⟨cSt_fr cst1 fr2, mst2, h106, hr, hr', htc⟩
set_option maxHeartbeats 4000000 in
set_option maxRecDepth 100000 in
theorem w_bars {G : zG} {n u nF uF : Nat} {Φ : zP} {μ : Nat → va_E} {i : Nat} {κ κ' : zκ} {kf : Bool} {τ : zτ} {σ : zσ} {R : Nat} {rw : Nat → Int32} {b tk : Nat → Nat} {ln tc : Nat} {tr : Nat → Int32} (hI : Inv μ n ((κ, κ', kf), τ, σ, (R, rw), (b, ln, tk), (tc, tr))) (hi : i + 5 ≤ zL G) (hL : zL G ≤ 2560) (hn : n ≤ nF) (hu : u ≤ uF) (K : ∀ μ', Inv μ' n ((κ, κ', kf), τ, σ, (R, rw), (b, ln, tk), (tc, tr)) → zW G 19 M_Lw_law 1789 [.ref 2, .ref 4, .ref 88, .int (nI i)] [] n u μ' nF uF Φ) : zW G 19 M_Lw_law 1021 [.ref 2, .ref 4, .ref 88, .int (nI i)] [] n u μ nF uF Φ := by
  obtain ⟨hc, hm, h106, hr, hr', htc⟩ := hI
  have hc0 := hc
  obtain ⟨h1, h2, ⟨ac, h3, h3a⟩, h4, h5, h6, h7, h8, h9⟩ := hc
  refine z_spec (fun hs => ?_)
  have m2 := hs 2 (by decide)
  refine z_al1 (pc' := 1022) 615 rfl rfl ?_
  refine z_al0 (pc' := 1023) 616 rfl rfl ?_
  refine z_il3 (pc' := 1024) 617 rfl rfl ?_
  refine z_iconst (v := nI 1) (by decide) (pc' := 1025) 618 rfl rfl ?_
  first | refine z_iaddN (pc' := 1026) 619 rfl rfl ?_ | refine z_iadd (pc' := 1026) 619 rfl rfl ?_
  refine z_iald7 (pc' := 1027) 620 rfl rfl (by decide) (by exact m2) (by omega) (by omega) ?_
  refine z_al0 (pc' := 1028) 621 rfl rfl ?_
  refine z_il3 (pc' := 1029) 622 rfl rfl ?_
  refine z_iconst (v := nI 2) (by decide) (pc' := 1030) 623 rfl rfl ?_
  first | refine z_iaddN (pc' := 1031) 624 rfl rfl ?_ | refine z_iadd (pc' := 1031) 624 rfl rfl ?_
  refine z_iald7 (pc' := 1032) 625 rfl rfl (by decide) (by exact m2) (by omega) (by omega) ?_
  refine z_callV (pc' := 1035) 626 rfl rfl k_Lw_129 (by exact h3) (c_Wb_bars h1 h3 h5 _ _) (by decide) (by omega) (by omega) rfl rfl (Nat.le_of_ble_eq_true rfl) (fun r1032 μ1032 h1032 => ?_)
  obtain ⟨cst1, fr1⟩ := cSt_Kp hc0 h1032
  have e1 := h1032.1
  subst e1
  obtain ⟨s, hs1⟩ := mSt_fr hm (fun i a1 a2 => fr1 i a1)
  dsimp only [Option.toList_some, List.cons_append, List.nil_append]
  refine z_spec (fun hs => ?_)
  have m2 := hs 2 (by decide)
  refine z_al2 (pc' := 1036) 627 rfl rfl ?_
  refine z_al0 (pc' := 1037) 628 rfl rfl ?_
  refine z_il3 (pc' := 1038) 629 rfl rfl ?_
  refine z_iconst (v := nI 1) (by decide) (pc' := 1039) 630 rfl rfl ?_
  first | refine z_iaddN (pc' := 1040) 631 rfl rfl ?_ | refine z_iadd (pc' := 1040) 631 rfl rfl ?_
  refine z_iald7 (pc' := 1041) 632 rfl rfl (by decide) (by exact m2) (by omega) (by omega) ?_
  refine z_al0 (pc' := 1042) 633 rfl rfl ?_
  refine z_il3 (pc' := 1043) 634 rfl rfl ?_
  refine z_iconst (v := nI 2) (by decide) (pc' := 1044) 635 rfl rfl ?_
  first | refine z_iaddN (pc' := 1045) 636 rfl rfl ?_ | refine z_iadd (pc' := 1045) 636 rfl rfl ?_
  refine z_iald7 (pc' := 1046) 637 rfl rfl (by decide) (by exact m2) (by omega) (by omega) ?_
  refine z_callV (pc' := 1049) 638 rfl rfl k_Lw_132 (by exact mst_88 hs1.1) (c_Mo_bars hs1.1 _ _) (by decide) (by omega) (by omega) rfl rfl (Nat.le_of_ble_eq_true rfl) (fun r1046 μ1046 h1046 => ?_)
  obtain ⟨mst2, fr2⟩ := mSt_K hs1 h1046
  have e2 := h1046.1
  subst e2
  dsimp only [Option.toList_some, List.cons_append, List.nil_append]
  refine z_spec (fun hs => ?_)
  have m2 := hs 2 (by decide)
  refine z_icmp_eq_t 639 rfl (tgt := 1789) rfl rfl ?_
  exact K _ ⟨cSt_fr cst1 fr2, mst2, h106, hr, hr', htc⟩
set_option maxHeartbeats 4000000 in
set_option maxRecDepth 100000 in
theorem w_game {G : zG} {n u nF uF : Nat} {Φ : zP} {μ : Nat → va_E} {i : Nat} {κ κ' : zκ} {kf : Bool} {τ : zτ} {σ : zσ} {R : Nat} {rw : Nat → Int32} {b tk : Nat → Nat} {ln tc : Nat} {tr : Nat → Int32} (hI : Inv μ n ((κ, κ', kf), τ, σ, (R, rw), (b, ln, tk), (tc, tr))) (hi : i + 5 ≤ zL G) (hL : zL G ≤ 2560) (hn : n ≤ nF) (hu : u ≤ uF) (K : ∀ μ', Inv μ' n ((κ, κ', kf), τ, σ, (R, rw), (b, ln, tk), (tc, tr)) → zW G 19 M_Lw_law 1789 [.ref 2, .ref 4, .ref 88, .int (nI i)] [] n u μ' nF uF Φ) : zW G 19 M_Lw_law 1054 [.ref 2, .ref 4, .ref 88, .int (nI i)] [] n u μ nF uF Φ := by
  obtain ⟨hc, hm, h106, hr, hr', htc⟩ := hI
  have hc0 := hc
  obtain ⟨h1, h2, ⟨ac, h3, h3a⟩, h4, h5, h6, h7, h8, h9⟩ := hc
  refine z_spec (fun hs => ?_)
  have m2 := hs 2 (by decide)
  refine z_al1 (pc' := 1055) 642 rfl rfl ?_
  refine z_al0 (pc' := 1056) 643 rfl rfl ?_
  refine z_il3 (pc' := 1057) 644 rfl rfl ?_
  refine z_iconst (v := nI 1) (by decide) (pc' := 1058) 645 rfl rfl ?_
  first | refine z_iaddN (pc' := 1059) 646 rfl rfl ?_ | refine z_iadd (pc' := 1059) 646 rfl rfl ?_
  refine z_iald7 (pc' := 1060) 647 rfl rfl (by decide) (by exact m2) (by omega) (by omega) ?_
  refine z_callV (pc' := 1063) 648 rfl rfl k_Lw_133 (by exact h3) (c_Wb_game h1 h3 h5 _) (by decide) (by omega) (by omega) rfl rfl (Nat.le_of_ble_eq_true rfl) (fun r1060 μ1060 h1060 => ?_)
  obtain ⟨cst1, fr1⟩ := cSt_Kp hc0 h1060
  have e1 := h1060.1
  subst e1
  obtain ⟨s, hs1⟩ := mSt_fr hm (fun i a1 a2 => fr1 i a1)
  dsimp only [Option.toList_some, List.cons_append, List.nil_append]
  refine z_spec (fun hs => ?_)
  have m2 := hs 2 (by decide)
  refine z_al2 (pc' := 1064) 649 rfl rfl ?_
  refine z_al0 (pc' := 1065) 650 rfl rfl ?_
  refine z_il3 (pc' := 1066) 651 rfl rfl ?_
  refine z_iconst (v := nI 1) (by decide) (pc' := 1067) 652 rfl rfl ?_
  first | refine z_iaddN (pc' := 1068) 653 rfl rfl ?_ | refine z_iadd (pc' := 1068) 653 rfl rfl ?_
  refine z_iald7 (pc' := 1069) 654 rfl rfl (by decide) (by exact m2) (by omega) (by omega) ?_
  refine z_callV (pc' := 1072) 655 rfl rfl k_Lw_136 (by exact mst_88 hs1.1) (c_Mo_game hs1.1 _) (by decide) (by omega) (by omega) rfl rfl (Nat.le_of_ble_eq_true rfl) (fun r1069 μ1069 h1069 => ?_)
  obtain ⟨mst2, fr2⟩ := mSt_K hs1 h1069
  have e2 := h1069.1
  subst e2
  dsimp only [Option.toList_some, List.cons_append, List.nil_append]
  refine z_spec (fun hs => ?_)
  have m2 := hs 2 (by decide)
  refine z_icmp_eq_t 656 rfl (tgt := 1789) rfl rfl ?_
  exact K _ ⟨cSt_fr cst1 fr2, mst2, h106, hr, hr', htc⟩
set_option maxHeartbeats 4000000 in
set_option maxRecDepth 100000 in
theorem w_play {G : zG} {n u nF uF : Nat} {Φ : zP} {μ : Nat → va_E} {i : Nat} {κ κ' : zκ} {kf : Bool} {τ : zτ} {σ : zσ} {R : Nat} {rw : Nat → Int32} {b tk : Nat → Nat} {ln tc : Nat} {tr : Nat → Int32} (hI : Inv μ n ((κ, κ', kf), τ, σ, (R, rw), (b, ln, tk), (tc, tr))) (hi : i + 5 ≤ zL G) (hL : zL G ≤ 2560) (hn : n ≤ nF) (hu : u ≤ uF) (K : ∀ μ', Inv μ' n ((κ, κ', kf), τ, σ, (R, rw), (b, ln, tk), (tc, tr)) → zW G 19 M_Lw_law 1789 [.ref 2, .ref 4, .ref 88, .int (nI i)] [] n u μ' nF uF Φ) : zW G 19 M_Lw_law 1077 [.ref 2, .ref 4, .ref 88, .int (nI i)] [] n u μ nF uF Φ := by
  obtain ⟨hc, hm, h106, hr, hr', htc⟩ := hI
  have hc0 := hc
  obtain ⟨h1, h2, ⟨ac, h3, h3a⟩, h4, h5, h6, h7, h8, h9⟩ := hc
  refine z_spec (fun hs => ?_)
  have m2 := hs 2 (by decide)
  refine z_al1 (pc' := 1078) 659 rfl rfl ?_
  refine z_al0 (pc' := 1079) 660 rfl rfl ?_
  refine z_il3 (pc' := 1080) 661 rfl rfl ?_
  refine z_iconst (v := nI 1) (by decide) (pc' := 1081) 662 rfl rfl ?_
  first | refine z_iaddN (pc' := 1082) 663 rfl rfl ?_ | refine z_iadd (pc' := 1082) 663 rfl rfl ?_
  refine z_iald7 (pc' := 1083) 664 rfl rfl (by decide) (by exact m2) (by omega) (by omega) ?_
  refine z_callV (pc' := 1086) 665 rfl rfl k_Lw_137 (by exact h3) (c_Wb_play h1 h3 h5 _) (by decide) (by omega) (by omega) rfl rfl (Nat.le_of_ble_eq_true rfl) (fun r1083 μ1083 h1083 => ?_)
  obtain ⟨cst1, fr1⟩ := cSt_Kp hc0 h1083
  have e1 := h1083.1
  subst e1
  obtain ⟨s, hs1⟩ := mSt_fr hm (fun i a1 a2 => fr1 i a1)
  dsimp only [Option.toList_some, List.cons_append, List.nil_append]
  refine z_spec (fun hs => ?_)
  have m2 := hs 2 (by decide)
  refine z_al2 (pc' := 1087) 666 rfl rfl ?_
  refine z_al0 (pc' := 1088) 667 rfl rfl ?_
  refine z_il3 (pc' := 1089) 668 rfl rfl ?_
  refine z_iconst (v := nI 1) (by decide) (pc' := 1090) 669 rfl rfl ?_
  first | refine z_iaddN (pc' := 1091) 670 rfl rfl ?_ | refine z_iadd (pc' := 1091) 670 rfl rfl ?_
  refine z_iald7 (pc' := 1092) 671 rfl rfl (by decide) (by exact m2) (by omega) (by omega) ?_
  refine z_callV (pc' := 1095) 672 rfl rfl k_Lw_140 (by exact mst_88 hs1.1) (c_Mo_play hs1.1 _) (by decide) (by omega) (by omega) rfl rfl (Nat.le_of_ble_eq_true rfl) (fun r1092 μ1092 h1092 => ?_)
  obtain ⟨mst2, fr2⟩ := mSt_K hs1 h1092
  have e2 := h1092.1
  subst e2
  dsimp only [Option.toList_some, List.cons_append, List.nil_append]
  refine z_spec (fun hs => ?_)
  have m2 := hs 2 (by decide)
  refine z_icmp_eq_t 673 rfl (tgt := 1789) rfl rfl ?_
  exact K _ ⟨cSt_fr cst1 fr2, mst2, h106, hr, hr', htc⟩
