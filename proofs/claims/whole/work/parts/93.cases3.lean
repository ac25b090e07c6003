theorem cSt_E {μ μ' : Nat → va_E} {A9 : zAll} {r0 r : Option Value} (h : cSt μ A9) (k : zE r0 μ r μ') : cSt μ' A9 ∧ ∀ i, 88 ≤ i → μ' i = μ i := by
  obtain ⟨-, rfl⟩ := k
  exact ⟨h, fun _ _ => rfl⟩
theorem mSt_E {μ μ' : Nat → va_E} {s : Nat → Int32} {A9 : zAll} {r0 r : Option Value} (h : mSs μ s A9) (k : zE r0 μ r μ') : mSt μ' A9 ∧ ∀ i, (i < 88 ∨ 105 < i) → μ' i = μ i := by
  obtain ⟨-, rfl⟩ := k
  exact ⟨⟨s, h⟩, fun _ _ => rfl⟩
theorem cstA_iK {μ : Nat → va_E} {A : Nat} {κ : zκ} (h : cstA μ A κ) : iK κ := by
  obtain ⟨S, mo, pr, fa, sc, ch, rc, D⟩ := κ
  exact h.2.2.2.2
set_option maxHeartbeats 4000000 in
set_option maxRecDepth 100000 in
theorem w_prove {G : zG} {n u nF uF : Nat} {Φ : zP} {μ : Nat → va_E} {i : Nat} {κ κ' : zκ} {kf : Bool} {τ : zτ} {σ : zσ} {R : Nat} {rw : Nat → Int32} {b tk : Nat → Nat} {ln tc : Nat} {tr : Nat → Int32} (hI : Inv μ n ((κ, κ', kf), τ, σ, (R, rw), (b, ln, tk), (tc, tr))) (hi : i + 5 ≤ zL G) (hL : zL G ≤ 2560) (hn : n ≤ nF) (hu : u ≤ uF) (K : ∀ μ', Inv μ' n ((κ, κ', kf), τ, σ, ((r_prove κ (zX G (i + 1)) R rw).2.1, (r_prove κ (zX G (i + 1)) R rw).2.2), (b, ln, tk), (tc, tr)) → zW G 19 M_Lw_law 1789 [.ref 2, .ref 4, .ref 88, .int (nI i)] [] n u μ' nF uF Φ) : zW G 19 M_Lw_law 1271 [.ref 2, .ref 4, .ref 88, .int (nI i)] [] n u μ nF uF Φ := by
  obtain ⟨hc, hm, h106, hr, hr', htc⟩ := hI
  have hc0 := hc
  obtain ⟨h1, h2, ⟨ac, h3, h3a⟩, h4, h5, h6, h7, h8, h9⟩ := hc
  refine z_spec (fun hs => ?_)
  have m2 := hs 2 (by decide)
  refine z_al1 (pc' := 1272) 805 rfl rfl ?_
  refine z_al0 (pc' := 1273) 806 rfl rfl ?_
  refine z_il3 (pc' := 1274) 807 rfl rfl ?_
  refine z_iconst (v := nI 1) (by decide) (pc' := 1275) 808 rfl rfl ?_
  first | refine z_iaddN (pc' := 1276) 809 rfl rfl ?_ | refine z_iadd (pc' := 1276) 809 rfl rfl ?_
  refine z_iald7 (pc' := 1277) 810 rfl rfl (by decide) (by exact m2) (by omega) (by omega) ?_
  refine z_callV (pc' := 1280) 811 rfl rfl k_Lw_169 (by exact h3) (c_Wb_prove h1 h3 h5 _) (by decide) (by omega) (by omega) rfl rfl (Nat.le_of_ble_eq_true rfl) (fun r1277 μ1277 h1277 => ?_)
  obtain ⟨cst1, fr1⟩ := cSt_Kp hc0 h1277
  have e1 := h1277.1
  subst e1
  obtain ⟨s, hs1⟩ := mSt_fr hm (fun i a1 a2 => fr1 i a1)
  dsimp only [Option.toList_some, List.cons_append, List.nil_append]
  refine z_spec (fun hs => ?_)
  have m2 := hs 2 (by decide)
  refine z_al2 (pc' := 1281) 812 rfl rfl ?_
  refine z_al0 (pc' := 1282) 813 rfl rfl ?_
  refine z_il3 (pc' := 1283) 814 rfl rfl ?_
  refine z_iconst (v := nI 1) (by decide) (pc' := 1284) 815 rfl rfl ?_
  first | refine z_iaddN (pc' := 1285) 816 rfl rfl ?_ | refine z_iadd (pc' := 1285) 816 rfl rfl ?_
  refine z_iald7 (pc' := 1286) 817 rfl rfl (by decide) (by exact m2) (by omega) (by omega) ?_
  refine z_callV (pc' := 1289) 818 rfl rfl k_Lw_172 (by exact mst_88 hs1.1) (c_Mo_prove hs1.1 hs1.2.2.1 _) (by decide) (by omega) (by omega) rfl rfl (Nat.le_of_ble_eq_true rfl) (fun r1286 μ1286 h1286 => ?_)
  obtain ⟨mst2, fr2⟩ := mSt_Kr hs1 h1286
  have e2 := h1286.1
  subst e2
  dsimp only [Option.toList_some, List.cons_append, List.nil_append]
  refine z_spec (fun hs => ?_)
  have m2 := hs 2 (by decide)
  refine z_icmp_eq_t 819 rfl (tgt := 1789) rfl rfl ?_
  exact K _ ⟨cSt_fr cst1 fr2, mst2, h106, hr, hr', htc⟩
set_option maxHeartbeats 4000000 in
set_option maxRecDepth 100000 in
theorem w_row {G : zG} {n u nF uF : Nat} {Φ : zP} {μ : Nat → va_E} {i : Nat} {κ κ' : zκ} {kf : Bool} {τ : zτ} {σ : zσ} {R : Nat} {rw : Nat → Int32} {b tk : Nat → Nat} {ln tc : Nat} {tr : Nat → Int32} (hI : Inv μ n ((κ, κ', kf), τ, σ, (R, rw), (b, ln, tk), (tc, tr))) (hi : i + 5 ≤ zL G) (hL : zL G ≤ 2560) (hn : n ≤ nF) (hu : u ≤ uF) (K : ∀ μ', Inv μ' n ((κ, κ', kf), τ, σ, (R, rw), (b, ln, tk), (tc, tr)) → zW G 19 M_Lw_law 1789 [.ref 2, .ref 4, .ref 88, .int (nI i)] [] n u μ' nF uF Φ) : zW G 19 M_Lw_law 1294 [.ref 2, .ref 4, .ref 88, .int (nI i)] [] n u μ nF uF Φ := by
  obtain ⟨hc, hm, h106, hr, hr', htc⟩ := hI
  have hc0 := hc
  obtain ⟨h1, h2, ⟨ac, h3, h3a⟩, h4, h5, h6, h7, h8, h9⟩ := hc
  refine z_spec (fun hs => ?_)
  have m2 := hs 2 (by decide)
  refine z_al1 (pc' := 1295) 822 rfl rfl ?_
  refine z_al0 (pc' := 1296) 823 rfl rfl ?_
  refine z_il3 (pc' := 1297) 824 rfl rfl ?_
  refine z_iconst (v := nI 1) (by decide) (pc' := 1298) 825 rfl rfl ?_
  first | refine z_iaddN (pc' := 1299) 826 rfl rfl ?_ | refine z_iadd (pc' := 1299) 826 rfl rfl ?_
  refine z_iald7 (pc' := 1300) 827 rfl rfl (by decide) (by exact m2) (by omega) (by omega) ?_
  refine z_al0 (pc' := 1301) 828 rfl rfl ?_
  refine z_il3 (pc' := 1302) 829 rfl rfl ?_
  refine z_iconst (v := nI 2) (by decide) (pc' := 1303) 830 rfl rfl ?_
  first | refine z_iaddN (pc' := 1304) 831 rfl rfl ?_ | refine z_iadd (pc' := 1304) 831 rfl rfl ?_
  refine z_iald7 (pc' := 1305) 832 rfl rfl (by decide) (by exact m2) (by omega) (by omega) ?_
  refine z_callV (pc' := 1308) 833 rfl rfl k_Lw_173 (by exact h3) (c_Wb_row h1 h3 h5 _ _) (by decide) (by omega) (by omega) rfl rfl (Nat.le_of_ble_eq_true rfl) (fun r1305 μ1305 h1305 => ?_)
  obtain ⟨cst1, fr1⟩ := cSt_Kp hc0 h1305
  have e1 := h1305.1
  subst e1
  obtain ⟨s, hs1⟩ := mSt_fr hm (fun i a1 a2 => fr1 i a1)
  dsimp only [Option.toList_some, List.cons_append, List.nil_append]
  refine z_spec (fun hs => ?_)
  have m2 := hs 2 (by decide)
  refine z_al2 (pc' := 1309) 834 rfl rfl ?_
  refine z_al0 (pc' := 1310) 835 rfl rfl ?_
  refine z_il3 (pc' := 1311) 836 rfl rfl ?_
  refine z_iconst (v := nI 1) (by decide) (pc' := 1312) 837 rfl rfl ?_
  first | refine z_iaddN (pc' := 1313) 838 rfl rfl ?_ | refine z_iadd (pc' := 1313) 838 rfl rfl ?_
  refine z_iald7 (pc' := 1314) 839 rfl rfl (by decide) (by exact m2) (by omega) (by omega) ?_
  refine z_al0 (pc' := 1315) 840 rfl rfl ?_
  refine z_il3 (pc' := 1316) 841 rfl rfl ?_
  refine z_iconst (v := nI 2) (by decide) (pc' := 1317) 842 rfl rfl ?_
  first | refine z_iaddN (pc' := 1318) 843 rfl rfl ?_ | refine z_iadd (pc' := 1318) 843 rfl rfl ?_
  refine z_iald7 (pc' := 1319) 844 rfl rfl (by decide) (by exact m2) (by omega) (by omega) ?_
  refine z_callV (pc' := 1322) 845 rfl rfl k_Lw_176 (by exact mst_88 hs1.1) (c_Mo_row hs1.1 hs1.2.2.1 _ _) (by decide) (by omega) (by omega) rfl rfl (Nat.le_of_ble_eq_true rfl) (fun r1319 μ1319 h1319 => ?_)
  obtain ⟨mst2, fr2⟩ := mSt_Kr hs1 h1319
  have e2 := h1319.1
  subst e2
  dsimp only [Option.toList_some, List.cons_append, List.nil_append]
  refine z_spec (fun hs => ?_)
  have m2 := hs 2 (by decide)
  refine z_icmp_eq_t 846 rfl (tgt := 1789) rfl rfl ?_
  exact K _ ⟨cSt_fr cst1 fr2, mst2, h106, hr, hr', htc⟩
set_option maxHeartbeats 4000000 in
set_option maxRecDepth 100000 in
theorem w_judge {G : zG} {n u nF uF : Nat} {Φ : zP} {μ : Nat → va_E} {i : Nat} {κ κ' : zκ} {kf : Bool} {τ : zτ} {σ : zσ} {R : Nat} {rw : Nat → Int32} {b tk : Nat → Nat} {ln tc : Nat} {tr : Nat → Int32} (hI : Inv μ n ((κ, κ', kf), τ, σ, (R, rw), (b, ln, tk), (tc, tr))) (hi : i + 5 ≤ zL G) (hL : zL G ≤ 2560) (hn : n ≤ nF) (hu : u ≤ uF) (K : ∀ μ', Inv μ' n ((κ, κ', kf), τ, σ, (R, rw), (b, ln, tk), (tc, tr)) → zW G 19 M_Lw_law 1789 [.ref 2, .ref 4, .ref 88, .int (nI i)] [] n u μ' nF uF Φ) : zW G 19 M_Lw_law 1370 [.ref 2, .ref 4, .ref 88, .int (nI i)] [] n u μ nF uF Φ := by
  obtain ⟨hc, hm, h106, hr, hr', htc⟩ := hI
  have hc0 := hc
  obtain ⟨h1, h2, ⟨ac, h3, h3a⟩, h4, h5, h6, h7, h8, h9⟩ := hc
  refine z_spec (fun hs => ?_)
  have m2 := hs 2 (by decide)
  refine z_al1 (pc' := 1371) 886 rfl rfl ?_
  refine z_callV (pc' := 1374) 887 rfl rfl k_Lw_181 (by exact h3) (c_Wb_judge h1 h3 h5 ) (by decide) (by omega) (by omega) rfl rfl (Nat.le_of_ble_eq_true rfl) (fun r1371 μ1371 h1371 => ?_)
  obtain ⟨cst1, fr1⟩ := cSt_Kp hc0 h1371
  have e1 := h1371.1
  subst e1
  obtain ⟨s, hs1⟩ := mSt_fr hm (fun i a1 a2 => fr1 i a1)
  dsimp only [Option.toList_some, List.cons_append, List.nil_append]
  refine z_spec (fun hs => ?_)
  have m2 := hs 2 (by decide)
  refine z_al2 (pc' := 1375) 888 rfl rfl ?_
  refine z_callV (pc' := 1378) 889 rfl rfl k_Lw_184 (by exact mst_88 hs1.1) (c_Mo_judge hs1.1 hs1.2.2.1 ) (by decide) (by omega) (by omega) rfl rfl (Nat.le_of_ble_eq_true rfl) (fun r1375 μ1375 h1375 => ?_)
  obtain ⟨mst2, fr2⟩ := mSt_Kr hs1 h1375
  have e2 := h1375.1
  subst e2
  dsimp only [Option.toList_some, List.cons_append, List.nil_append]
  refine z_spec (fun hs => ?_)
  have m2 := hs 2 (by decide)
  refine z_icmp_eq_t 890 rfl (tgt := 1789) rfl rfl ?_
  exact K _ ⟨cSt_fr cst1 fr2, mst2, h106, hr, hr', htc⟩
set_option maxHeartbeats 4000000 in
set_option maxRecDepth 100000 in
theorem w_alterRow {G : zG} {n u nF uF : Nat} {Φ : zP} {μ : Nat → va_E} {i : Nat} {κ κ' : zκ} {kf : Bool} {τ : zτ} {σ : zσ} {R : Nat} {rw : Nat → Int32} {b tk : Nat → Nat} {ln tc : Nat} {tr : Nat → Int32} (hI : Inv μ n ((κ, κ', kf), τ, σ, (R, rw), (b, ln, tk), (tc, tr))) (hi : i + 5 ≤ zL G) (hL : zL G ≤ 2560) (hn : n ≤ nF) (hu : u ≤ uF) (K : ∀ μ', Inv μ' n ((κ, κ', kf), τ, σ, (R, r_alter R rw (zX G (i + 1)) (zX G (i + 2)) (zX G (i + 3))), (b, ln, tk), (tc, tr)) → zW G 19 M_Lw_law 1789 [.ref 2, .ref 4, .ref 88, .int (nI i)] [] n u μ' nF uF Φ) : zW G 19 M_Lw_law 1327 [.ref 2, .ref 4, .ref 88, .int (nI i)] [] n u μ nF uF Φ := by
  obtain ⟨hc, hm, h106, hr, hr', htc⟩ := hI
  have hc0 := hc
  obtain ⟨h1, h2, ⟨ac, h3, h3a⟩, h4, h5, h6, h7, h8, h9⟩ := hc
  refine z_spec (fun hs => ?_)
  have m2 := hs 2 (by decide)
  refine z_al1 (pc' := 1328) 849 rfl rfl ?_
  refine z_al0 (pc' := 1329) 850 rfl rfl ?_
  refine z_il3 (pc' := 1330) 851 rfl rfl ?_
  refine z_iconst (v := nI 1) (by decide) (pc' := 1331) 852 rfl rfl ?_
  first | refine z_iaddN (pc' := 1332) 853 rfl rfl ?_ | refine z_iadd (pc' := 1332) 853 rfl rfl ?_
  refine z_iald7 (pc' := 1333) 854 rfl rfl (by decide) (by exact m2) (by omega) (by omega) ?_
  refine z_al0 (pc' := 1334) 855 rfl rfl ?_
  refine z_il3 (pc' := 1335) 856 rfl rfl ?_
  refine z_iconst (v := nI 2) (by decide) (pc' := 1336) 857 rfl rfl ?_
  first | refine z_iaddN (pc' := 1337) 858 rfl rfl ?_ | refine z_iadd (pc' := 1337) 858 rfl rfl ?_
  refine z_iald7 (pc' := 1338) 859 rfl rfl (by decide) (by exact m2) (by omega) (by omega) ?_
  refine z_al0 (pc' := 1339) 860 rfl rfl ?_
  refine z_il3 (pc' := 1340) 861 rfl rfl ?_
  refine z_iconst (v := nI 3) (by decide) (pc' := 1341) 862 rfl rfl ?_
  first | refine z_iaddN (pc' := 1342) 863 rfl rfl ?_ | refine z_iadd (pc' := 1342) 863 rfl rfl ?_
  refine z_iald7 (pc' := 1343) 864 rfl rfl (by decide) (by exact m2) (by omega) (by omega) ?_
  refine z_callV (pc' := 1346) 865 rfl rfl k_Lw_177 (by exact h3) (c_Wb_alterRow h1 h3 h5 _ _ _) (by decide) (by omega) (by omega) rfl rfl (Nat.le_of_ble_eq_true rfl) (fun r1343 μ1343 h1343 => ?_)
  obtain ⟨cst1, fr1⟩ := cSt_Kp hc0 h1343
  have e1 := h1343.1
  subst e1
  obtain ⟨s, hs1⟩ := mSt_fr hm (fun i a1 a2 => fr1 i a1)
  dsimp only [Option.toList_some, List.cons_append, List.nil_append]
  refine z_spec (fun hs => ?_)
  have m2 := hs 2 (by decide)
  refine z_al2 (pc' := 1347) 866 rfl rfl ?_
  refine z_al0 (pc' := 1348) 867 rfl rfl ?_
  refine z_il3 (pc' := 1349) 868 rfl rfl ?_
  refine z_iconst (v := nI 1) (by decide) (pc' := 1350) 869 rfl rfl ?_
  first | refine z_iaddN (pc' := 1351) 870 rfl rfl ?_ | refine z_iadd (pc' := 1351) 870 rfl rfl ?_
  refine z_iald7 (pc' := 1352) 871 rfl rfl (by decide) (by exact m2) (by omega) (by omega) ?_
  refine z_al0 (pc' := 1353) 872 rfl rfl ?_
  refine z_il3 (pc' := 1354) 873 rfl rfl ?_
  refine z_iconst (v := nI 2) (by decide) (pc' := 1355) 874 rfl rfl ?_
  first | refine z_iaddN (pc' := 1356) 875 rfl rfl ?_ | refine z_iadd (pc' := 1356) 875 rfl rfl ?_
  refine z_iald7 (pc' := 1357) 876 rfl rfl (by decide) (by exact m2) (by omega) (by omega) ?_
  refine z_al0 (pc' := 1358) 877 rfl rfl ?_
  refine z_il3 (pc' := 1359) 878 rfl rfl ?_
  refine z_iconst (v := nI 3) (by decide) (pc' := 1360) 879 rfl rfl ?_
  first | refine z_iaddN (pc' := 1361) 880 rfl rfl ?_ | refine z_iadd (pc' := 1361) 880 rfl rfl ?_
  refine z_iald7 (pc' := 1362) 881 rfl rfl (by decide) (by exact m2) (by omega) (by omega) ?_
  refine z_callV (pc' := 1365) 882 rfl rfl k_Lw_180 (by exact mst_88 hs1.1) (c_Mo_alterRow hs1.1 hs1.2.2.1 _ _ _) (by decide) (by omega) (by omega) rfl rfl (Nat.le_of_ble_eq_true rfl) (fun r1362 μ1362 h1362 => ?_)
  obtain ⟨mst2, fr2⟩ := mSt_Kr hs1 h1362
  have e2 := h1362.1
  subst e2
  dsimp only [Option.toList_some, List.cons_append, List.nil_append]
  refine z_spec (fun hs => ?_)
  have m2 := hs 2 (by decide)
  refine z_icmp_eq_t 883 rfl (tgt := 1789) rfl rfl ?_
  exact K _ ⟨cSt_fr cst1 fr2, mst2, h106, hr, hr', htc⟩
set_option maxHeartbeats 4000000 in
set_option maxRecDepth 100000 in
theorem w_sheet {G : zG} {n u nF uF : Nat} {Φ : zP} {μ : Nat → va_E} {i : Nat} {κ κ' : zκ} {kf : Bool} {τ : zτ} {σ : zσ} {R : Nat} {rw : Nat → Int32} {b tk : Nat → Nat} {ln tc : Nat} {tr : Nat → Int32} (hI : Inv μ n ((κ, κ', kf), τ, σ, (R, rw), (b, ln, tk), (tc, tr))) (hi : i + 5 ≤ zL G) (hL : zL G ≤ 2560) (hn : n ≤ nF) (hu : u ≤ uF) (K : ∀ μ', Inv μ' n ((κ, κ', kf), (f_sheet τ (zX G (i + 1)) (zX G (i + 2)) (zX G (i + 3))).2, σ, (R, rw), (b, ln, tk), (tc, tr)) → zW G 19 M_Lw_law 1789 [.ref 2, .ref 4, .ref 88, .int (nI i)] [] n u μ' nF uF Φ) : zW G 19 M_Lw_law 1383 [.ref 2, .ref 4, .ref 88, .int (nI i)] [] n u μ nF uF Φ := by
  obtain ⟨hc, hm, h106, hr, hr', htc⟩ := hI
  have hc0 := hc
  obtain ⟨h1, h2, ⟨ac, h3, h3a⟩, h4, h5, h6, h7, h8, h9⟩ := hc
  refine z_spec (fun hs => ?_)
  have m2 := hs 2 (by decide)
  refine z_al1 (pc' := 1384) 893 rfl rfl ?_
  refine z_al0 (pc' := 1385) 894 rfl rfl ?_
  refine z_il3 (pc' := 1386) 895 rfl rfl ?_
  refine z_iconst (v := nI 1) (by decide) (pc' := 1387) 896 rfl rfl ?_
  first | refine z_iaddN (pc' := 1388) 897 rfl rfl ?_ | refine z_iadd (pc' := 1388) 897 rfl rfl ?_
  refine z_iald7 (pc' := 1389) 898 rfl rfl (by decide) (by exact m2) (by omega) (by omega) ?_
  refine z_al0 (pc' := 1390) 899 rfl rfl ?_
  refine z_il3 (pc' := 1391) 900 rfl rfl ?_
  refine z_iconst (v := nI 2) (by decide) (pc' := 1392) 901 rfl rfl ?_
  first | refine z_iaddN (pc' := 1393) 902 rfl rfl ?_ | refine z_iadd (pc' := 1393) 902 rfl rfl ?_
  refine z_iald7 (pc' := 1394) 903 rfl rfl (by decide) (by exact m2) (by omega) (by omega) ?_
  refine z_al0 (pc' := 1395) 904 rfl rfl ?_
  refine z_il3 (pc' := 1396) 905 rfl rfl ?_
  refine z_iconst (v := nI 3) (by decide) (pc' := 1397) 906 rfl rfl ?_
  first | refine z_iaddN (pc' := 1398) 907 rfl rfl ?_ | refine z_iadd (pc' := 1398) 907 rfl rfl ?_
  refine z_iald7 (pc' := 1399) 908 rfl rfl (by decide) (by exact m2) (by omega) (by omega) ?_
  refine z_callV (pc' := 1402) 909 rfl rfl k_Lw_185 (by exact h3) (c_Wb_sheet h6 h3 _ _ _) (by decide) (by omega) (by omega) rfl rfl (Nat.le_of_ble_eq_true rfl) (fun r1399 μ1399 h1399 => ?_)
  obtain ⟨cst1, fr1⟩ := cSt_Ks hc0 h1399
  have e1 := h1399.1
  subst e1
  obtain ⟨s, hs1⟩ := mSt_fr hm (fun i a1 a2 => fr1 i a1)
  dsimp only [Option.toList_some, List.cons_append, List.nil_append]
  refine z_spec (fun hs => ?_)
  have m2 := hs 2 (by decide)
  refine z_al2 (pc' := 1403) 910 rfl rfl ?_
  refine z_al0 (pc' := 1404) 911 rfl rfl ?_
  refine z_il3 (pc' := 1405) 912 rfl rfl ?_
  refine z_iconst (v := nI 1) (by decide) (pc' := 1406) 913 rfl rfl ?_
  first | refine z_iaddN (pc' := 1407) 914 rfl rfl ?_ | refine z_iadd (pc' := 1407) 914 rfl rfl ?_
  refine z_iald7 (pc' := 1408) 915 rfl rfl (by decide) (by exact m2) (by omega) (by omega) ?_
  refine z_al0 (pc' := 1409) 916 rfl rfl ?_
  refine z_il3 (pc' := 1410) 917 rfl rfl ?_
  refine z_iconst (v := nI 2) (by decide) (pc' := 1411) 918 rfl rfl ?_
  first | refine z_iaddN (pc' := 1412) 919 rfl rfl ?_ | refine z_iadd (pc' := 1412) 919 rfl rfl ?_
  refine z_iald7 (pc' := 1413) 920 rfl rfl (by decide) (by exact m2) (by omega) (by omega) ?_
  refine z_al0 (pc' := 1414) 921 rfl rfl ?_
  refine z_il3 (pc' := 1415) 922 rfl rfl ?_
  refine z_iconst (v := nI 3) (by decide) (pc' := 1416) 923 rfl rfl ?_
  first | refine z_iaddN (pc' := 1417) 924 rfl rfl ?_ | refine z_iadd (pc' := 1417) 924 rfl rfl ?_
  refine z_iald7 (pc' := 1418) 925 rfl rfl (by decide) (by exact m2) (by omega) (by omega) ?_
  refine z_callV (pc' := 1421) 926 rfl rfl k_Lw_188 (by exact mst_88 hs1.1) (c_Mo_sheet hs1.2.2.2.2.2.1 (mst_88 hs1.1) _ _ _) (by decide) (by omega) (by omega) rfl rfl (Nat.le_of_ble_eq_true rfl) (fun r1418 μ1418 h1418 => ?_)
  obtain ⟨mst2, fr2⟩ := mSt_Ks hs1 h1418
  have e2 := h1418.1
  subst e2
  dsimp only [Option.toList_some, List.cons_append, List.nil_append]
  refine z_spec (fun hs => ?_)
  have m2 := hs 2 (by decide)
  refine z_icmp_eq_t 927 rfl (tgt := 1789) rfl rfl ?_
  exact K _ ⟨cSt_fr cst1 fr2, mst2, h106, hr, hr', htc⟩
set_option maxHeartbeats 4000000 in
set_option maxRecDepth 100000 in
theorem w_write {G : zG} {n u nF uF : Nat} {Φ : zP} {μ : Nat → va_E} {i : Nat} {κ κ' : zκ} {kf : Bool} {τ : zτ} {σ : zσ} {R : Nat} {rw : Nat → Int32} {b tk : Nat → Nat} {ln tc : Nat} {tr : Nat → Int32} (hI : Inv μ n ((κ, κ', kf), τ, σ, (R, rw), (b, ln, tk), (tc, tr))) (hi : i + 5 ≤ zL G) (hL : zL G ≤ 2560) (hn : n ≤ nF) (hu : u ≤ uF) (K : ∀ μ', Inv μ' n ((κ, κ', kf), (f_write τ (zX G (i + 1)) (zX G (i + 2)) (zX G (i + 3))).2, σ, (R, rw), (b, ln, tk), (tc, tr)) → zW G 19 M_Lw_law 1789 [.ref 2, .ref 4, .ref 88, .int (nI i)] [] n u μ' nF uF Φ) : zW G 19 M_Lw_law 1426 [.ref 2, .ref 4, .ref 88, .int (nI i)] [] n u μ nF uF Φ := by
  obtain ⟨hc, hm, h106, hr, hr', htc⟩ := hI
  have hc0 := hc
  obtain ⟨h1, h2, ⟨ac, h3, h3a⟩, h4, h5, h6, h7, h8, h9⟩ := hc
  refine z_spec (fun hs => ?_)
  have m2 := hs 2 (by decide)
  refine z_al1 (pc' := 1427) 930 rfl rfl ?_
  refine z_al0 (pc' := 1428) 931 rfl rfl ?_
  refine z_il3 (pc' := 1429) 932 rfl rfl ?_
  refine z_iconst (v := nI 1) (by decide) (pc' := 1430) 933 rfl rfl ?_
  first | refine z_iaddN (pc' := 1431) 934 rfl rfl ?_ | refine z_iadd (pc' := 1431) 934 rfl rfl ?_
  refine z_iald7 (pc' := 1432) 935 rfl rfl (by decide) (by exact m2) (by omega) (by omega) ?_
  refine z_al0 (pc' := 1433) 936 rfl rfl ?_
  refine z_il3 (pc' := 1434) 937 rfl rfl ?_
  refine z_iconst (v := nI 2) (by decide) (pc' := 1435) 938 rfl rfl ?_
  first | refine z_iaddN (pc' := 1436) 939 rfl rfl ?_ | refine z_iadd (pc' := 1436) 939 rfl rfl ?_
  refine z_iald7 (pc' := 1437) 940 rfl rfl (by decide) (by exact m2) (by omega) (by omega) ?_
  refine z_al0 (pc' := 1438) 941 rfl rfl ?_
  refine z_il3 (pc' := 1439) 942 rfl rfl ?_
  refine z_iconst (v := nI 3) (by decide) (pc' := 1440) 943 rfl rfl ?_
  first | refine z_iaddN (pc' := 1441) 944 rfl rfl ?_ | refine z_iadd (pc' := 1441) 944 rfl rfl ?_
  refine z_iald7 (pc' := 1442) 945 rfl rfl (by decide) (by exact m2) (by omega) (by omega) ?_
  refine z_callV (pc' := 1445) 946 rfl rfl k_Lw_189 (by exact h3) (c_Wb_write h6 h3 _ _ _) (by decide) (by omega) (by omega) rfl rfl (Nat.le_of_ble_eq_true rfl) (fun r1442 μ1442 h1442 => ?_)
  obtain ⟨cst1, fr1⟩ := cSt_Ks hc0 h1442
  have e1 := h1442.1
  subst e1
  obtain ⟨s, hs1⟩ := mSt_fr hm (fun i a1 a2 => fr1 i a1)
  dsimp only [Option.toList_some, List.cons_append, List.nil_append]
  refine z_spec (fun hs => ?_)
  have m2 := hs 2 (by decide)
  refine z_al2 (pc' := 1446) 947 rfl rfl ?_
  refine z_al0 (pc' := 1447) 948 rfl rfl ?_
  refine z_il3 (pc' := 1448) 949 rfl rfl ?_
  refine z_iconst (v := nI 1) (by decide) (pc' := 1449) 950 rfl rfl ?_
  first | refine z_iaddN (pc' := 1450) 951 rfl rfl ?_ | refine z_iadd (pc' := 1450) 951 rfl rfl ?_
  refine z_iald7 (pc' := 1451) 952 rfl rfl (by decide) (by exact m2) (by omega) (by omega) ?_
  refine z_al0 (pc' := 1452) 953 rfl rfl ?_
  refine z_il3 (pc' := 1453) 954 rfl rfl ?_
  refine z_iconst (v := nI 2) (by decide) (pc' := 1454) 955 rfl rfl ?_
  first | refine z_iaddN (pc' := 1455) 956 rfl rfl ?_ | refine z_iadd (pc' := 1455) 956 rfl rfl ?_
  refine z_iald7 (pc' := 1456) 957 rfl rfl (by decide) (by exact m2) (by omega) (by omega) ?_
  refine z_al0 (pc' := 1457) 958 rfl rfl ?_
  refine z_il3 (pc' := 1458) 959 rfl rfl ?_
  refine z_iconst (v := nI 3) (by decide) (pc' := 1459) 960 rfl rfl ?_
  first | refine z_iaddN (pc' := 1460) 961 rfl rfl ?_ | refine z_iadd (pc' := 1460) 961 rfl rfl ?_
  refine z_iald7 (pc' := 1461) 962 rfl rfl (by decide) (by exact m2) (by omega) (by omega) ?_
  refine z_callV (pc' := 1464) 963 rfl rfl k_Lw_192 (by exact mst_88 hs1.1) (c_Mo_write hs1.2.2.2.2.2.1 (mst_88 hs1.1) _ _ _) (by decide) (by omega) (by omega) rfl rfl (Nat.le_of_ble_eq_true rfl) (fun r1461 μ1461 h1461 => ?_)
  obtain ⟨mst2, fr2⟩ := mSt_Ks hs1 h1461
  have e2 := h1461.1
  subst e2
  dsimp only [Option.toList_some, List.cons_append, List.nil_append]
  refine z_spec (fun hs => ?_)
  have m2 := hs 2 (by decide)
  refine z_icmp_eq_t 964 rfl (tgt := 1789) rfl rfl ?_
  exact K _ ⟨cSt_fr cst1 fr2, mst2, h106, hr, hr', htc⟩
set_option maxHeartbeats 4000000 in
set_option maxRecDepth 100000 in
theorem w_item {G : zG} {n u nF uF : Nat} {Φ : zP} {μ : Nat → va_E} {i : Nat} {κ κ' : zκ} {kf : Bool} {τ : zτ} {σ : zσ} {R : Nat} {rw : Nat → Int32} {b tk : Nat → Nat} {ln tc : Nat} {tr : Nat → Int32} (hI : Inv μ n ((κ, κ', kf), τ, σ, (R, rw), (b, ln, tk), (tc, tr))) (hi : i + 5 ≤ zL G) (hL : zL G ≤ 2560) (hn : n ≤ nF) (hu : u ≤ uF) (K : ∀ μ', Inv μ' n ((κ, κ', kf), τ, σ, (R, rw), (b, ln, tk), (tc, tr)) → zW G 19 M_Lw_law 1789 [.ref 2, .ref 4, .ref 88, .int (nI i)] [] n u μ' nF uF Φ) : zW G 19 M_Lw_law 1469 [.ref 2, .ref 4, .ref 88, .int (nI i)] [] n u μ nF uF Φ := by
  obtain ⟨hc, hm, h106, hr, hr', htc⟩ := hI
  have hc0 := hc
  obtain ⟨h1, h2, ⟨ac, h3, h3a⟩, h4, h5, h6, h7, h8, h9⟩ := hc
  refine z_spec (fun hs => ?_)
  have m2 := hs 2 (by decide)
  refine z_al1 (pc' := 1470) 967 rfl rfl ?_
  refine z_al0 (pc' := 1471) 968 rfl rfl ?_
  refine z_il3 (pc' := 1472) 969 rfl rfl ?_
  refine z_iconst (v := nI 1) (by decide) (pc' := 1473) 970 rfl rfl ?_
  first | refine z_iaddN (pc' := 1474) 971 rfl rfl ?_ | refine z_iadd (pc' := 1474) 971 rfl rfl ?_
  refine z_iald7 (pc' := 1475) 972 rfl rfl (by decide) (by exact m2) (by omega) (by omega) ?_
  refine z_al0 (pc' := 1476) 973 rfl rfl ?_
  refine z_il3 (pc' := 1477) 974 rfl rfl ?_
  refine z_iconst (v := nI 2) (by decide) (pc' := 1478) 975 rfl rfl ?_
  first | refine z_iaddN (pc' := 1479) 976 rfl rfl ?_ | refine z_iadd (pc' := 1479) 976 rfl rfl ?_
  refine z_iald7 (pc' := 1480) 977 rfl rfl (by decide) (by exact m2) (by omega) (by omega) ?_
  refine z_al0 (pc' := 1481) 978 rfl rfl ?_
  refine z_il3 (pc' := 1482) 979 rfl rfl ?_
  refine z_iconst (v := nI 3) (by decide) (pc' := 1483) 980 rfl rfl ?_
  first | refine z_iaddN (pc' := 1484) 981 rfl rfl ?_ | refine z_iadd (pc' := 1484) 981 rfl rfl ?_
  refine z_iald7 (pc' := 1485) 982 rfl rfl (by decide) (by exact m2) (by omega) (by omega) ?_
  refine z_callV (pc' := 1488) 983 rfl rfl k_Lw_193 (by exact h3) (c_Wb_item h6 h3 _ _ _) (by decide) (by omega) (by omega) rfl rfl (Nat.le_of_ble_eq_true rfl) (fun r1485 μ1485 h1485 => ?_)
  obtain ⟨cst1, fr1⟩ := cSt_Ks hc0 h1485
  have e1 := h1485.1
  subst e1
  obtain ⟨s, hs1⟩ := mSt_fr hm (fun i a1 a2 => fr1 i a1)
  dsimp only [Option.toList_some, List.cons_append, List.nil_append]
  refine z_spec (fun hs => ?_)
  have m2 := hs 2 (by decide)
  refine z_al2 (pc' := 1489) 984 rfl rfl ?_
  refine z_al0 (pc' := 1490) 985 rfl rfl ?_
  refine z_il3 (pc' := 1491) 986 rfl rfl ?_
  refine z_iconst (v := nI 1) (by decide) (pc' := 1492) 987 rfl rfl ?_
  first | refine z_iaddN (pc' := 1493) 988 rfl rfl ?_ | refine z_iadd (pc' := 1493) 988 rfl rfl ?_
  refine z_iald7 (pc' := 1494) 989 rfl rfl (by decide) (by exact m2) (by omega) (by omega) ?_
  refine z_al0 (pc' := 1495) 990 rfl rfl ?_
  refine z_il3 (pc' := 1496) 991 rfl rfl ?_
  refine z_iconst (v := nI 2) (by decide) (pc' := 1497) 992 rfl rfl ?_
  first | refine z_iaddN (pc' := 1498) 993 rfl rfl ?_ | refine z_iadd (pc' := 1498) 993 rfl rfl ?_
  refine z_iald7 (pc' := 1499) 994 rfl rfl (by decide) (by exact m2) (by omega) (by omega) ?_
  refine z_al0 (pc' := 1500) 995 rfl rfl ?_
  refine z_il3 (pc' := 1501) 996 rfl rfl ?_
  refine z_iconst (v := nI 3) (by decide) (pc' := 1502) 997 rfl rfl ?_
  first | refine z_iaddN (pc' := 1503) 998 rfl rfl ?_ | refine z_iadd (pc' := 1503) 998 rfl rfl ?_
  refine z_iald7 (pc' := 1504) 999 rfl rfl (by decide) (by exact m2) (by omega) (by omega) ?_
  refine z_callV (pc' := 1507) 1000 rfl rfl k_Lw_196 (by exact mst_88 hs1.1) (c_Mo_item hs1.2.2.2.2.2.1 (mst_88 hs1.1) _ _ _) (by decide) (by omega) (by omega) rfl rfl (Nat.le_of_ble_eq_true rfl) (fun r1504 μ1504 h1504 => ?_)
  obtain ⟨mst2, fr2⟩ := mSt_Ks hs1 h1504
  have e2 := h1504.1
  subst e2
  dsimp only [Option.toList_some, List.cons_append, List.nil_append]
  refine z_spec (fun hs => ?_)
  have m2 := hs 2 (by decide)
  refine z_icmp_eq_t 1001 rfl (tgt := 1789) rfl rfl ?_
  exact K _ ⟨cSt_fr cst1 fr2, mst2, h106, hr, hr', htc⟩
set_option maxHeartbeats 4000000 in
set_option maxRecDepth 100000 in
theorem w_goAll {G : zG} {n u nF uF : Nat} {Φ : zP} {μ : Nat → va_E} {i : Nat} {κ κ' : zκ} {kf : Bool} {τ : zτ} {σ : zσ} {R : Nat} {rw : Nat → Int32} {b tk : Nat → Nat} {ln tc : Nat} {tr : Nat → Int32} (hI : Inv μ n ((κ, κ', kf), τ, σ, (R, rw), (b, ln, tk), (tc, tr))) (hi : i + 5 ≤ zL G) (hL : zL G ≤ 2560) (hn : n ≤ nF) (hu : u ≤ uF) (K : ∀ μ', Inv μ' n (((f_goAll τ κ (zX G (i + 1)) (zX G (i + 2)) (zX G (i + 3))).2, κ', kf), τ, σ, (R, rw), (b, ln, tk), (tc, tr)) → zW G 19 M_Lw_law 1789 [.ref 2, .ref 4, .ref 88, .int (nI i)] [] n u μ' nF uF Φ) : zW G 19 M_Lw_law 1512 [.ref 2, .ref 4, .ref 88, .int (nI i)] [] n u μ nF uF Φ := by
  obtain ⟨hc, hm, h106, hr, hr', htc⟩ := hI
  have hc0 := hc
  obtain ⟨h1, h2, ⟨ac, h3, h3a⟩, h4, h5, h6, h7, h8, h9⟩ := hc
  refine z_spec (fun hs => ?_)
  have m2 := hs 2 (by decide)
  refine z_al1 (pc' := 1513) 1004 rfl rfl ?_
  refine z_al0 (pc' := 1514) 1005 rfl rfl ?_
  refine z_il3 (pc' := 1515) 1006 rfl rfl ?_
  refine z_iconst (v := nI 1) (by decide) (pc' := 1516) 1007 rfl rfl ?_
  first | refine z_iaddN (pc' := 1517) 1008 rfl rfl ?_ | refine z_iadd (pc' := 1517) 1008 rfl rfl ?_
  refine z_iald7 (pc' := 1518) 1009 rfl rfl (by decide) (by exact m2) (by omega) (by omega) ?_
  refine z_al0 (pc' := 1519) 1010 rfl rfl ?_
  refine z_il3 (pc' := 1520) 1011 rfl rfl ?_
  refine z_iconst (v := nI 2) (by decide) (pc' := 1521) 1012 rfl rfl ?_
  first | refine z_iaddN (pc' := 1522) 1013 rfl rfl ?_ | refine z_iadd (pc' := 1522) 1013 rfl rfl ?_
  refine z_iald7 (pc' := 1523) 1014 rfl rfl (by decide) (by exact m2) (by omega) (by omega) ?_
  refine z_al0 (pc' := 1524) 1015 rfl rfl ?_
  refine z_il3 (pc' := 1525) 1016 rfl rfl ?_
  refine z_iconst (v := nI 3) (by decide) (pc' := 1526) 1017 rfl rfl ?_
  first | refine z_iaddN (pc' := 1527) 1018 rfl rfl ?_ | refine z_iadd (pc' := 1527) 1018 rfl rfl ?_
  refine z_iald7 (pc' := 1528) 1019 rfl rfl (by decide) (by exact m2) (by omega) (by omega) ?_
  refine z_callV (pc' := 1531) 1020 rfl rfl k_Lw_197 (by exact h3) (c_Wb_goAll h1 h6 h3 _ _ _) (by decide) (by omega) (by omega) rfl rfl (Nat.le_of_ble_eq_true rfl) (fun r1528 μ1528 h1528 => ?_)
  obtain ⟨cst1, fr1⟩ := cSt_K hc0 h1528
  have e1 := h1528.1
  subst e1
  obtain ⟨s, hs1⟩ := mSt_fr hm (fun i a1 a2 => fr1 i a1)
  dsimp only [Option.toList_some, List.cons_append, List.nil_append]
  refine z_spec (fun hs => ?_)
  have m2 := hs 2 (by decide)
  refine z_al2 (pc' := 1532) 1021 rfl rfl ?_
  refine z_al0 (pc' := 1533) 1022 rfl rfl ?_
  refine z_il3 (pc' := 1534) 1023 rfl rfl ?_
  refine z_iconst (v := nI 1) (by decide) (pc' := 1535) 1024 rfl rfl ?_
  first | refine z_iaddN (pc' := 1536) 1025 rfl rfl ?_ | refine z_iadd (pc' := 1536) 1025 rfl rfl ?_
  refine z_iald7 (pc' := 1537) 1026 rfl rfl (by decide) (by exact m2) (by omega) (by omega) ?_
  refine z_al0 (pc' := 1538) 1027 rfl rfl ?_
  refine z_il3 (pc' := 1539) 1028 rfl rfl ?_
  refine z_iconst (v := nI 2) (by decide) (pc' := 1540) 1029 rfl rfl ?_
  first | refine z_iaddN (pc' := 1541) 1030 rfl rfl ?_ | refine z_iadd (pc' := 1541) 1030 rfl rfl ?_
  refine z_iald7 (pc' := 1542) 1031 rfl rfl (by decide) (by exact m2) (by omega) (by omega) ?_
  refine z_al0 (pc' := 1543) 1032 rfl rfl ?_
  refine z_il3 (pc' := 1544) 1033 rfl rfl ?_
  refine z_iconst (v := nI 3) (by decide) (pc' := 1545) 1034 rfl rfl ?_
  first | refine z_iaddN (pc' := 1546) 1035 rfl rfl ?_ | refine z_iadd (pc' := 1546) 1035 rfl rfl ?_
  refine z_iald7 (pc' := 1547) 1036 rfl rfl (by decide) (by exact m2) (by omega) (by omega) ?_
  refine z_callV (pc' := 1550) 1037 rfl rfl k_Lw_200 (by exact mst_88 hs1.1) (c_Mo_goAll hs1.1 hs1.2.2.2.2.2.1 _ _ _) (by decide) (by omega) (by omega) rfl rfl (Nat.le_of_ble_eq_true rfl) (fun r1547 μ1547 h1547 => ?_)
  obtain ⟨mst2, fr2⟩ := mSt_K hs1 h1547
  have e2 := h1547.1
  subst e2
  dsimp only [Option.toList_some, List.cons_append, List.nil_append]
  refine z_spec (fun hs => ?_)
  have m2 := hs 2 (by decide)
  refine z_icmp_eq_t 1038 rfl (tgt := 1789) rfl rfl ?_
  exact K _ ⟨cSt_fr cst1 fr2, mst2, h106, iRp_goAll hr τ (zX G (i + 1)) (zX G (i + 2)) (zX G (i + 3)), hr', htc⟩
set_option maxHeartbeats 4000000 in
set_option maxRecDepth 100000 in
theorem w_wouldBe {G : zG} {n u nF uF : Nat} {Φ : zP} {μ : Nat → va_E} {i : Nat} {κ κ' : zκ} {kf : Bool} {τ : zτ} {σ : zσ} {R : Nat} {rw : Nat → Int32} {b tk : Nat → Nat} {ln tc : Nat} {tr : Nat → Int32} (hI : Inv μ n ((κ, κ', kf), τ, σ, (R, rw), (b, ln, tk), (tc, tr))) (hi : i + 5 ≤ zL G) (hL : zL G ≤ 2560) (hn : n ≤ nF) (hu : u ≤ uF) (K : ∀ μ', Inv μ' n ((κ, κ', kf), τ, σ, (R, rw), (b, ln, tk), (tc, tr)) → zW G 19 M_Lw_law 1789 [.ref 2, .ref 4, .ref 88, .int (nI i)] [] n u μ' nF uF Φ) : zW G 19 M_Lw_law 1555 [.ref 2, .ref 4, .ref 88, .int (nI i)] [] n u μ nF uF Φ := by
  obtain ⟨hc, hm, h106, hr, hr', htc⟩ := hI
  have hc0 := hc
  obtain ⟨h1, h2, ⟨ac, h3, h3a⟩, h4, h5, h6, h7, h8, h9⟩ := hc
  refine z_spec (fun hs => ?_)
  have m2 := hs 2 (by decide)
  refine z_al1 (pc' := 1556) 1041 rfl rfl ?_
  refine z_al0 (pc' := 1557) 1042 rfl rfl ?_
  refine z_il3 (pc' := 1558) 1043 rfl rfl ?_
  refine z_iconst (v := nI 1) (by decide) (pc' := 1559) 1044 rfl rfl ?_
  first | refine z_iaddN (pc' := 1560) 1045 rfl rfl ?_ | refine z_iadd (pc' := 1560) 1045 rfl rfl ?_
  refine z_iald7 (pc' := 1561) 1046 rfl rfl (by decide) (by exact m2) (by omega) (by omega) ?_
  refine z_al0 (pc' := 1562) 1047 rfl rfl ?_
  refine z_il3 (pc' := 1563) 1048 rfl rfl ?_
  refine z_iconst (v := nI 2) (by decide) (pc' := 1564) 1049 rfl rfl ?_
  first | refine z_iaddN (pc' := 1565) 1050 rfl rfl ?_ | refine z_iadd (pc' := 1565) 1050 rfl rfl ?_
  refine z_iald7 (pc' := 1566) 1051 rfl rfl (by decide) (by exact m2) (by omega) (by omega) ?_
  refine z_al0 (pc' := 1567) 1052 rfl rfl ?_
  refine z_il3 (pc' := 1568) 1053 rfl rfl ?_
  refine z_iconst (v := nI 3) (by decide) (pc' := 1569) 1054 rfl rfl ?_
  first | refine z_iaddN (pc' := 1570) 1055 rfl rfl ?_ | refine z_iadd (pc' := 1570) 1055 rfl rfl ?_
  refine z_iald7 (pc' := 1571) 1056 rfl rfl (by decide) (by exact m2) (by omega) (by omega) ?_
  refine z_callV (pc' := 1574) 1057 rfl rfl k_Lw_201 (by exact h3) (c_Wb_wouldBe h1 h6 h3 h4 _ _ _) (by decide) (by omega) (by omega) rfl rfl (Nat.le_of_ble_eq_true rfl) (fun r1571 μ1571 h1571 => ?_)
  obtain ⟨cst1, fr1⟩ := cSt_Kt hc0 h1571
  have e1 := h1571.1
  subst e1
  obtain ⟨s, hs1⟩ := mSt_fr hm (fun i a1 a2 => fr1 i a1)
  dsimp only [Option.toList_some, List.cons_append, List.nil_append]
  refine z_spec (fun hs => ?_)
  have m2 := hs 2 (by decide)
  refine z_al2 (pc' := 1575) 1058 rfl rfl ?_
  refine z_al0 (pc' := 1576) 1059 rfl rfl ?_
  refine z_il3 (pc' := 1577) 1060 rfl rfl ?_
  refine z_iconst (v := nI 1) (by decide) (pc' := 1578) 1061 rfl rfl ?_
  first | refine z_iaddN (pc' := 1579) 1062 rfl rfl ?_ | refine z_iadd (pc' := 1579) 1062 rfl rfl ?_
  refine z_iald7 (pc' := 1580) 1063 rfl rfl (by decide) (by exact m2) (by omega) (by omega) ?_
  refine z_al0 (pc' := 1581) 1064 rfl rfl ?_
  refine z_il3 (pc' := 1582) 1065 rfl rfl ?_
  refine z_iconst (v := nI 2) (by decide) (pc' := 1583) 1066 rfl rfl ?_
  first | refine z_iaddN (pc' := 1584) 1067 rfl rfl ?_ | refine z_iadd (pc' := 1584) 1067 rfl rfl ?_
  refine z_iald7 (pc' := 1585) 1068 rfl rfl (by decide) (by exact m2) (by omega) (by omega) ?_
  refine z_al0 (pc' := 1586) 1069 rfl rfl ?_
  refine z_il3 (pc' := 1587) 1070 rfl rfl ?_
  refine z_iconst (v := nI 3) (by decide) (pc' := 1588) 1071 rfl rfl ?_
  first | refine z_iaddN (pc' := 1589) 1072 rfl rfl ?_ | refine z_iadd (pc' := 1589) 1072 rfl rfl ?_
  refine z_iald7 (pc' := 1590) 1073 rfl rfl (by decide) (by exact m2) (by omega) (by omega) ?_
  refine z_callV (pc' := 1593) 1074 rfl rfl k_Lw_204 (by exact mst_88 hs1.1) (c_Mo_wouldBe hs1.1 hs1.2.2.2.2.2.1 _ _ _) (by decide) (by omega) (by omega) rfl rfl (Nat.le_of_ble_eq_true rfl) (fun r1590 μ1590 h1590 => ?_)
  obtain ⟨mst2, fr2⟩ := mSt_K hs1 h1590
  have e2 := h1590.1
  subst e2
  dsimp only [Option.toList_some, List.cons_append, List.nil_append]
  refine z_spec (fun hs => ?_)
  have m2 := hs 2 (by decide)
  refine z_icmp_eq_t 1075 rfl (tgt := 1789) rfl rfl ?_
  exact K _ ⟨cSt_fr cst1 fr2, mst2, h106, hr, hr', htc⟩
set_option maxHeartbeats 4000000 in
set_option maxRecDepth 100000 in
theorem w_shelf {G : zG} {n u nF uF : Nat} {Φ : zP} {μ : Nat → va_E} {i : Nat} {κ κ' : zκ} {kf : Bool} {τ : zτ} {σ : zσ} {R : Nat} {rw : Nat → Int32} {b tk : Nat → Nat} {ln tc : Nat} {tr : Nat → Int32} (hI : Inv μ n ((κ, κ', kf), τ, σ, (R, rw), (b, ln, tk), (tc, tr))) (hi : i + 5 ≤ zL G) (hL : zL G ≤ 2560) (hn : n ≤ nF) (hu : u ≤ uF) (K : ∀ μ', Inv μ' n ((κ, κ', kf), τ, (f_shelf κ τ σ (zX G (i + 1)) (zX G (i + 2)) (zX G (i + 3))).2, (R, rw), (b, ln, tk), (tc, tr)) → zW G 19 M_Lw_law 1789 [.ref 2, .ref 4, .ref 88, .int (nI i)] [] n u μ' nF uF Φ) : zW G 19 M_Lw_law 1598 [.ref 2, .ref 4, .ref 88, .int (nI i)] [] n u μ nF uF Φ := by
  obtain ⟨hc, hm, h106, hr, hr', htc⟩ := hI
  have hc0 := hc
  obtain ⟨h1, h2, ⟨ac, h3, h3a⟩, h4, h5, h6, h7, h8, h9⟩ := hc
  refine z_spec (fun hs => ?_)
  have m2 := hs 2 (by decide)
  refine z_al1 (pc' := 1599) 1078 rfl rfl ?_
  refine z_al0 (pc' := 1600) 1079 rfl rfl ?_
  refine z_il3 (pc' := 1601) 1080 rfl rfl ?_
  refine z_iconst (v := nI 1) (by decide) (pc' := 1602) 1081 rfl rfl ?_
  first | refine z_iaddN (pc' := 1603) 1082 rfl rfl ?_ | refine z_iadd (pc' := 1603) 1082 rfl rfl ?_
  refine z_iald7 (pc' := 1604) 1083 rfl rfl (by decide) (by exact m2) (by omega) (by omega) ?_
  refine z_al0 (pc' := 1605) 1084 rfl rfl ?_
  refine z_il3 (pc' := 1606) 1085 rfl rfl ?_
  refine z_iconst (v := nI 2) (by decide) (pc' := 1607) 1086 rfl rfl ?_
  first | refine z_iaddN (pc' := 1608) 1087 rfl rfl ?_ | refine z_iadd (pc' := 1608) 1087 rfl rfl ?_
  refine z_iald7 (pc' := 1609) 1088 rfl rfl (by decide) (by exact m2) (by omega) (by omega) ?_
  refine z_al0 (pc' := 1610) 1089 rfl rfl ?_
  refine z_il3 (pc' := 1611) 1090 rfl rfl ?_
  refine z_iconst (v := nI 3) (by decide) (pc' := 1612) 1091 rfl rfl ?_
  first | refine z_iaddN (pc' := 1613) 1092 rfl rfl ?_ | refine z_iadd (pc' := 1613) 1092 rfl rfl ?_
  refine z_iald7 (pc' := 1614) 1093 rfl rfl (by decide) (by exact m2) (by omega) (by omega) ?_
  refine z_callV (pc' := 1617) 1094 rfl rfl k_Lw_205 (by exact h3) (c_Wb_shelf h1 h7 h3 h6 _ _ _) (by decide) (by omega) (by omega) rfl rfl (Nat.le_of_ble_eq_true rfl) (fun r1614 μ1614 h1614 => ?_)
  obtain ⟨cst1, fr1⟩ := cSt_Kh hc0 h1614
  have e1 := h1614.1
  subst e1
  obtain ⟨s, hs1⟩ := mSt_fr hm (fun i a1 a2 => fr1 i a1)
  dsimp only [Option.toList_some, List.cons_append, List.nil_append]
  refine z_spec (fun hs => ?_)
  have m2 := hs 2 (by decide)
  refine z_al2 (pc' := 1618) 1095 rfl rfl ?_
  refine z_al0 (pc' := 1619) 1096 rfl rfl ?_
  refine z_il3 (pc' := 1620) 1097 rfl rfl ?_
  refine z_iconst (v := nI 1) (by decide) (pc' := 1621) 1098 rfl rfl ?_
  first | refine z_iaddN (pc' := 1622) 1099 rfl rfl ?_ | refine z_iadd (pc' := 1622) 1099 rfl rfl ?_
  refine z_iald7 (pc' := 1623) 1100 rfl rfl (by decide) (by exact m2) (by omega) (by omega) ?_
  refine z_al0 (pc' := 1624) 1101 rfl rfl ?_
  refine z_il3 (pc' := 1625) 1102 rfl rfl ?_
  refine z_iconst (v := nI 2) (by decide) (pc' := 1626) 1103 rfl rfl ?_
  first | refine z_iaddN (pc' := 1627) 1104 rfl rfl ?_ | refine z_iadd (pc' := 1627) 1104 rfl rfl ?_
  refine z_iald7 (pc' := 1628) 1105 rfl rfl (by decide) (by exact m2) (by omega) (by omega) ?_
  refine z_al0 (pc' := 1629) 1106 rfl rfl ?_
  refine z_il3 (pc' := 1630) 1107 rfl rfl ?_
  refine z_iconst (v := nI 3) (by decide) (pc' := 1631) 1108 rfl rfl ?_
  first | refine z_iaddN (pc' := 1632) 1109 rfl rfl ?_ | refine z_iadd (pc' := 1632) 1109 rfl rfl ?_
  refine z_iald7 (pc' := 1633) 1110 rfl rfl (by decide) (by exact m2) (by omega) (by omega) ?_
  refine z_callV (pc' := 1636) 1111 rfl rfl k_Lw_208 (by exact mst_88 hs1.1) (c_Mo_shelf hs1.1 hs1.2.2.2.2.2.1 hs1.2.2.2.2.2.2.1 _ _ _) (by decide) (by omega) (by omega) rfl rfl (Nat.le_of_ble_eq_true rfl) (fun r1633 μ1633 h1633 => ?_)
  obtain ⟨mst2, fr2⟩ := mSt_Kh hs1 h1633
  have e2 := h1633.1
  subst e2
  dsimp only [Option.toList_some, List.cons_append, List.nil_append]
  refine z_spec (fun hs => ?_)
  have m2 := hs 2 (by decide)
  refine z_icmp_eq_t 1112 rfl (tgt := 1789) rfl rfl ?_
  exact K _ ⟨cSt_fr cst1 fr2, mst2, h106, hr, hr', htc⟩
set_option maxHeartbeats 4000000 in
set_option maxRecDepth 100000 in
theorem w_taken {G : zG} {n u nF uF : Nat} {Φ : zP} {μ : Nat → va_E} {i : Nat} {κ κ' : zκ} {kf : Bool} {τ : zτ} {σ : zσ} {R : Nat} {rw : Nat → Int32} {b tk : Nat → Nat} {ln tc : Nat} {tr : Nat → Int32} (hI : Inv μ n ((κ, κ', kf), τ, σ, (R, rw), (b, ln, tk), (tc, tr))) (hi : i + 5 ≤ zL G) (hL : zL G ≤ 2560) (hn : n ≤ nF) (hu : u ≤ uF) (K : ∀ μ', Inv μ' n ((κ, κ', kf), τ, σ, (R, rw), (b, ln, tk), (tc, tr)) → zW G 19 M_Lw_law 1789 [.ref 2, .ref 4, .ref 88, .int (nI i)] [] n u μ' nF uF Φ) : zW G 19 M_Lw_law 1641 [.ref 2, .ref 4, .ref 88, .int (nI i)] [] n u μ nF uF Φ := by
  obtain ⟨hc, hm, h106, hr, hr', htc⟩ := hI
  have hc0 := hc
  obtain ⟨h1, h2, ⟨ac, h3, h3a⟩, h4, h5, h6, h7, h8, h9⟩ := hc
  refine z_spec (fun hs => ?_)
  have m2 := hs 2 (by decide)
  refine z_al1 (pc' := 1642) 1115 rfl rfl ?_
  refine z_al0 (pc' := 1643) 1116 rfl rfl ?_
  refine z_il3 (pc' := 1644) 1117 rfl rfl ?_
  refine z_iconst (v := nI 1) (by decide) (pc' := 1645) 1118 rfl rfl ?_
  first | refine z_iaddN (pc' := 1646) 1119 rfl rfl ?_ | refine z_iadd (pc' := 1646) 1119 rfl rfl ?_
  refine z_iald7 (pc' := 1647) 1120 rfl rfl (by decide) (by exact m2) (by omega) (by omega) ?_
  refine z_al0 (pc' := 1648) 1121 rfl rfl ?_
  refine z_il3 (pc' := 1649) 1122 rfl rfl ?_
  refine z_iconst (v := nI 2) (by decide) (pc' := 1650) 1123 rfl rfl ?_
  first | refine z_iaddN (pc' := 1651) 1124 rfl rfl ?_ | refine z_iadd (pc' := 1651) 1124 rfl rfl ?_
  refine z_iald7 (pc' := 1652) 1125 rfl rfl (by decide) (by exact m2) (by omega) (by omega) ?_
  refine z_callV (pc' := 1655) 1126 rfl rfl k_Lw_209 (by exact h3) (c_Wb_taken h1 h7 h3 _ _) (by decide) (by omega) (by omega) rfl rfl (Nat.le_of_ble_eq_true rfl) (fun r1652 μ1652 h1652 => ?_)
  obtain ⟨cst1, fr1⟩ := cSt_K hc0 h1652
  have e1 := h1652.1
  subst e1
  obtain ⟨s, hs1⟩ := mSt_fr hm (fun i a1 a2 => fr1 i a1)
  dsimp only [Option.toList_some, List.cons_append, List.nil_append]
  refine z_spec (fun hs => ?_)
  have m2 := hs 2 (by decide)
  refine z_al2 (pc' := 1656) 1127 rfl rfl ?_
  refine z_al0 (pc' := 1657) 1128 rfl rfl ?_
  refine z_il3 (pc' := 1658) 1129 rfl rfl ?_
  refine z_iconst (v := nI 1) (by decide) (pc' := 1659) 1130 rfl rfl ?_
  first | refine z_iaddN (pc' := 1660) 1131 rfl rfl ?_ | refine z_iadd (pc' := 1660) 1131 rfl rfl ?_
  refine z_iald7 (pc' := 1661) 1132 rfl rfl (by decide) (by exact m2) (by omega) (by omega) ?_
  refine z_al0 (pc' := 1662) 1133 rfl rfl ?_
  refine z_il3 (pc' := 1663) 1134 rfl rfl ?_
  refine z_iconst (v := nI 2) (by decide) (pc' := 1664) 1135 rfl rfl ?_
  first | refine z_iaddN (pc' := 1665) 1136 rfl rfl ?_ | refine z_iadd (pc' := 1665) 1136 rfl rfl ?_
  refine z_iald7 (pc' := 1666) 1137 rfl rfl (by decide) (by exact m2) (by omega) (by omega) ?_
  refine z_callV (pc' := 1669) 1138 rfl rfl k_Lw_212 (by exact mst_88 hs1.1) (c_Mo_taken hs1.1 hs1.2.2.2.2.2.2.1 _ _) (by decide) (by omega) (by omega) rfl rfl (Nat.le_of_ble_eq_true rfl) (fun r1666 μ1666 h1666 => ?_)
  obtain ⟨mst2, fr2⟩ := mSt_K hs1 h1666
  have e2 := h1666.1
  subst e2
  dsimp only [Option.toList_some, List.cons_append, List.nil_append]
  refine z_spec (fun hs => ?_)
  have m2 := hs 2 (by decide)
  refine z_icmp_eq_t 1139 rfl (tgt := 1789) rfl rfl ?_
  exact K _ ⟨cSt_fr cst1 fr2, mst2, h106, hr, hr', htc⟩
set_option maxHeartbeats 4000000 in
set_option maxRecDepth 100000 in
theorem w_rules {G : zG} {n u nF uF : Nat} {Φ : zP} {μ : Nat → va_E} {i : Nat} {κ κ' : zκ} {kf : Bool} {τ : zτ} {σ : zσ} {R : Nat} {rw : Nat → Int32} {b tk : Nat → Nat} {ln tc : Nat} {tr : Nat → Int32} (hI : Inv μ n ((κ, κ', kf), τ, σ, (R, rw), (b, ln, tk), (tc, tr))) (hi : i + 5 ≤ zL G) (hL : zL G ≤ 2560) (hn : n ≤ nF) (hu : u ≤ uF) (K : ∀ μ', Inv μ' n (((f_rules κ b ln tk).2, κ', kf), τ, σ, (R, rw), (b, 0, tcF b ln tk), (tc, tr)) → zW G 19 M_Lw_law 1789 [.ref 2, .ref 4, .ref 88, .int (nI i)] [] n u μ' nF uF Φ) : zW G 19 M_Lw_law 696 [.ref 2, .ref 4, .ref 88, .int (nI i)] [] n u μ nF uF Φ := by
  obtain ⟨hc, hm, h106, hr, hr', htc⟩ := hI
  have hc0 := hc
  obtain ⟨h1, h2, ⟨ac, h3, h3a⟩, h4, h5, h6, h7, h8, h9⟩ := hc
  refine z_spec (fun hs => ?_)
  have m2 := hs 2 (by decide)
  refine z_al1 (pc' := 697) 380 rfl rfl ?_
  refine z_callV (pc' := 700) 381 rfl rfl k_Lw_69 (by exact h3) (c_Wb_rules h1 h3 h8) (by decide) (by omega) (by omega) rfl rfl (Nat.le_of_ble_eq_true rfl) (fun r697 μ697 h697 => ?_)
  obtain ⟨cst1, fr1⟩ := cSt_Ru hc0 h697
  have e1 := h697.1
  subst e1
  obtain ⟨s, hs1⟩ := mSt_fr hm (fun i a1 a2 => fr1 i a1)
  dsimp only [Option.toList_some, List.cons_append, List.nil_append]
  refine z_spec (fun hs => ?_)
  have m2 := hs 2 (by decide)
  refine z_al2 (pc' := 701) 382 rfl rfl ?_
  refine z_callV (pc' := 704) 383 rfl rfl k_Lw_72 (by exact mst_88 hs1.1) (c_Mo_rules hs1.1 hs1.2.2.2.2.1 h8.1 h8.2.1 hs1.2.2.2.1 h8.2.2.1) (by decide) (by omega) (by omega) rfl rfl (Nat.le_of_ble_eq_true rfl) (fun r701 μ701 h701 => ?_)
  obtain ⟨mst2, fr2⟩ := mSt_Ru hs1 h701
  have e2 := h701.1
  subst e2
  dsimp only [Option.toList_some, List.cons_append, List.nil_append]
  refine z_spec (fun hs => ?_)
  have m2 := hs 2 (by decide)
  refine z_icmp_eq_t 384 rfl (tgt := 1789) rfl rfl ?_
  exact K _ ⟨cSt_fr cst1 fr2, mst2, h106, iRp_rules hr b ln tk, hr', htc⟩
set_option maxHeartbeats 4000000 in
set_option maxRecDepth 100000 in
theorem w_trace {G : zG} {n u nF uF : Nat} {Φ : zP} {μ : Nat → va_E} {i : Nat} {κ κ' : zκ} {kf : Bool} {τ : zτ} {σ : zσ} {R : Nat} {rw : Nat → Int32} {b tk : Nat → Nat} {ln tc : Nat} {tr : Nat → Int32} (hI : Inv μ n ((κ, κ', kf), τ, σ, (R, rw), (b, ln, tk), (tc, tr))) (hi : i + 5 ≤ zL G) (hL : zL G ≤ 2560) (hn : n ≤ nF) (hu : u ≤ uF) (K : ∀ μ', Inv μ' n ((κ, κ', kf), τ, σ, (R, rw), (b, ln, tk), (tc, tr)) → zW G 19 M_Lw_law 1789 [.ref 2, .ref 4, .ref 88, .int (nI i)] [] n u μ' nF uF Φ) : zW G 19 M_Lw_law 1717 [.ref 2, .ref 4, .ref 88, .int (nI i)] [] n u μ nF uF Φ := by
  obtain ⟨hc, hm, h106, hr, hr', htc⟩ := hI
  have hc0 := hc
  obtain ⟨h1, h2, ⟨ac, h3, h3a⟩, h4, h5, h6, h7, h8, h9⟩ := hc
  refine z_spec (fun hs => ?_)
  have m2 := hs 2 (by decide)
  refine z_al1 (pc' := 1718) 1179 rfl rfl ?_
  refine z_al0 (pc' := 1719) 1180 rfl rfl ?_
  refine z_il3 (pc' := 1720) 1181 rfl rfl ?_
  refine z_iconst (v := nI 1) (by decide) (pc' := 1721) 1182 rfl rfl ?_
  first | refine z_iaddN (pc' := 1722) 1183 rfl rfl ?_ | refine z_iadd (pc' := 1722) 1183 rfl rfl ?_
  refine z_iald7 (pc' := 1723) 1184 rfl rfl (by decide) (by exact m2) (by omega) (by omega) ?_
  refine z_callV (pc' := 1726) 1185 rfl rfl k_Lw_217 (by exact h3) (c_Wb_trace h3 h9 htc h3a _) (by decide) (by omega) (by omega) rfl rfl (Nat.le_of_ble_eq_true rfl) (fun r1723 μ1723 h1723 => ?_)
  obtain ⟨cst1, fr1⟩ := cSt_E hc0 h1723
  have e1 := h1723.1
  subst e1
  obtain ⟨s, hs1⟩ := mSt_fr hm (fun i a1 a2 => fr1 i a1)
  dsimp only [Option.toList_some, List.cons_append, List.nil_append]
  refine z_spec (fun hs => ?_)
  have m2 := hs 2 (by decide)
  refine z_al2 (pc' := 1727) 1186 rfl rfl ?_
  refine z_al0 (pc' := 1728) 1187 rfl rfl ?_
  refine z_il3 (pc' := 1729) 1188 rfl rfl ?_
  refine z_iconst (v := nI 1) (by decide) (pc' := 1730) 1189 rfl rfl ?_
  first | refine z_iaddN (pc' := 1731) 1190 rfl rfl ?_ | refine z_iadd (pc' := 1731) 1190 rfl rfl ?_
  refine z_iald7 (pc' := 1732) 1191 rfl rfl (by decide) (by exact m2) (by omega) (by omega) ?_
  refine z_callV (pc' := 1735) 1192 rfl rfl k_Lw_220 (by exact mst_88 hs1.1) (c_Mo_trace (mst_88 hs1.1) hs1.2.2.2.2.2.2.2.1 htc hs1.2.2.2.2.2.2.2.2 _) (by decide) (by omega) (by omega) rfl rfl (Nat.le_of_ble_eq_true rfl) (fun r1732 μ1732 h1732 => ?_)
  obtain ⟨mst2, fr2⟩ := mSt_E hs1 h1732
  have e2 := h1732.1
  subst e2
  dsimp only [Option.toList_some, List.cons_append, List.nil_append]
  refine z_spec (fun hs => ?_)
  have m2 := hs 2 (by decide)
  refine z_icmp_eq_t 1193 rfl (tgt := 1789) rfl rfl ?_
  exact K _ ⟨cSt_fr cst1 fr2, mst2, h106, hr, hr', htc⟩
set_option maxHeartbeats 4000000 in
set_option maxRecDepth 100000 in
theorem w_many {G : zG} {n u nF uF : Nat} {Φ : zP} {μ : Nat → va_E} {i : Nat} {κ κ' : zκ} {kf : Bool} {τ : zτ} {σ : zσ} {R : Nat} {rw : Nat → Int32} {b tk : Nat → Nat} {ln tc : Nat} {tr : Nat → Int32} (hI : Inv μ n ((κ, κ', kf), τ, σ, (R, rw), (b, ln, tk), (tc, tr))) (hi : i + 5 ≤ zL G) (hL : zL G ≤ 2560) (hn : n ≤ nF) (hu : u ≤ uF) (K : ∀ μ', Inv μ' n ((κ, κ', kf), τ, σ, (R, rw), (b, ln, tk), (tc, tr)) → zW G 19 M_Lw_law 1789 [.ref 2, .ref 4, .ref 88, .int (nI i)] [] n u μ' nF uF Φ) : zW G 19 M_Lw_law 1740 [.ref 2, .ref 4, .ref 88, .int (nI i)] [] n u μ nF uF Φ := by
  obtain ⟨hc, hm, h106, hr, hr', htc⟩ := hI
  have hc0 := hc
  obtain ⟨h1, h2, ⟨ac, h3, h3a⟩, h4, h5, h6, h7, h8, h9⟩ := hc
  refine z_spec (fun hs => ?_)
  have m2 := hs 2 (by decide)
  obtain ⟨a47, h47⟩ := h8.2.2.2.2.2.2.1
  refine z_al1 (pc' := 1741) 1196 rfl rfl ?_
  refine z_al0 (pc' := 1742) 1197 rfl rfl ?_
  refine z_il3 (pc' := 1743) 1198 rfl rfl ?_
  refine z_iconst (v := nI 1) (by decide) (pc' := 1744) 1199 rfl rfl ?_
  first | refine z_iaddN (pc' := 1745) 1200 rfl rfl ?_ | refine z_iadd (pc' := 1745) 1200 rfl rfl ?_
  refine z_iald7 (pc' := 1746) 1201 rfl rfl (by decide) (by exact m2) (by omega) (by omega) ?_
  refine z_callV (pc' := 1749) 1202 rfl rfl k_Lw_221 (by exact h3) (c_Wb_many h1 h3 h5 h47 h3a _) (by decide) (by omega) (by omega) rfl rfl (Nat.le_of_ble_eq_true rfl) (fun r1746 μ1746 h1746 => ?_)
  obtain ⟨cst1, fr1⟩ := cSt_E hc0 h1746
  have e1 := h1746.1
  subst e1
  obtain ⟨s, hs1⟩ := mSt_fr hm (fun i a1 a2 => fr1 i a1)
  dsimp only [Option.toList_some, List.cons_append, List.nil_append]
  refine z_spec (fun hs => ?_)
  have m2 := hs 2 (by decide)
  refine z_al2 (pc' := 1750) 1203 rfl rfl ?_
  refine z_al0 (pc' := 1751) 1204 rfl rfl ?_
  refine z_il3 (pc' := 1752) 1205 rfl rfl ?_
  refine z_iconst (v := nI 1) (by decide) (pc' := 1753) 1206 rfl rfl ?_
  first | refine z_iaddN (pc' := 1754) 1207 rfl rfl ?_ | refine z_iadd (pc' := 1754) 1207 rfl rfl ?_
  refine z_iald7 (pc' := 1755) 1208 rfl rfl (by decide) (by exact m2) (by omega) (by omega) ?_
  refine z_callV (pc' := 1758) 1209 rfl rfl k_Lw_224 (by exact mst_88 hs1.1) (c_Mo_many hs1.1 hs1.2.2.1.1 hs1.2.2.2.1 hs1.2.2.2.2.2.2.2.1 _) (by decide) (by omega) (by omega) rfl rfl (Nat.le_of_ble_eq_true rfl) (fun r1755 μ1755 h1755 => ?_)
  obtain ⟨mst2, fr2⟩ := mSt_E hs1 h1755
  have e2 := h1755.1
  subst e2
  dsimp only [Option.toList_some, List.cons_append, List.nil_append]
  refine z_spec (fun hs => ?_)
  have m2 := hs 2 (by decide)
  refine z_icmp_eq_t 1210 rfl (tgt := 1789) rfl rfl ?_
  exact K _ ⟨cSt_fr cst1 fr2, mst2, h106, hr, hr', htc⟩
set_option maxHeartbeats 4000000 in
set_option maxRecDepth 100000 in
theorem w_again {G : zG} {n u nF uF : Nat} {Φ : zP} {μ : Nat → va_E} {i : Nat} {κ κ' : zκ} {kf : Bool} {τ : zτ} {σ : zσ} {R : Nat} {rw : Nat → Int32} {b tk : Nat → Nat} {ln tc : Nat} {tr : Nat → Int32} (hI : Inv μ n ((κ, κ', kf), τ, σ, (R, rw), (b, ln, tk), (tc, tr))) (hi : i + 5 ≤ zL G) (hL : zL G ≤ 2560) (hn : n ≤ nF) (hu : u ≤ uF) (K : ∀ μ', Inv μ' n (((if kf = true then (nI (κ'.1 0 0), κ') else (-3, κ)).2, κ', kf), τ, σ, (R, rw), (b, ln, tk), (tc, tr)) → zW G 19 M_Lw_law 1789 [.ref 2, .ref 4, .ref 88, .int (nI i)] [] n u μ' nF uF Φ) : zW G 19 M_Lw_law 1776 [.ref 2, .ref 4, .ref 88, .int (nI i)] [] n u μ nF uF Φ := by
  obtain ⟨hc, hm, h106, hr, hr', htc⟩ := hI
  have hc0 := hc
  obtain ⟨h1, h2, ⟨ac, h3, h3a⟩, h4, h5, h6, h7, h8, h9⟩ := hc
  refine z_spec (fun hs => ?_)
  have m2 := hs 2 (by decide)
  refine z_al1 (pc' := 1777) 1220 rfl rfl ?_
  refine z_callV (pc' := 1780) 1221 rfl rfl k_Lw_229 (by exact h3) (c_Wb_again h1 h2 h3) (by decide) (by omega) (by omega) rfl rfl (Nat.le_of_ble_eq_true rfl) (fun r1777 μ1777 h1777 => ?_)
  obtain ⟨cst1, fr1⟩ := cSt_K hc0 h1777
  have e1 := h1777.1
  subst e1
  obtain ⟨s, hs1⟩ := mSt_fr hm (fun i a1 a2 => fr1 i a1)
  dsimp only [Option.toList_some, List.cons_append, List.nil_append]
  refine z_spec (fun hs => ?_)
  have m2 := hs 2 (by decide)
  refine z_al2 (pc' := 1781) 1222 rfl rfl ?_
  refine z_callV (pc' := 1784) 1223 rfl rfl k_Lw_232 (by exact mst_88 hs1.1) (c_Mo_again hs1.1 hs1.2.1 (cstA_iK h2)) (by decide) (by omega) (by omega) rfl rfl (Nat.le_of_ble_eq_true rfl) (fun r1781 μ1781 h1781 => ?_)
  obtain ⟨mst2, fr2⟩ := mSt_K hs1 h1781
  have e2 := h1781.1
  subst e2
  dsimp only [Option.toList_some, List.cons_append, List.nil_append]
  refine z_spec (fun hs => ?_)
  have m2 := hs 2 (by decide)
  refine z_icmp_eq_t 1224 rfl (tgt := 1789) rfl rfl ?_
  exact K _ ⟨cSt_fr cst1 fr2, mst2, h106, (by show iRp (if kf = true then (nI (κ'.1 0 0), κ') else (-3, κ)).2.1; split; exact hr'; exact hr), hr', htc⟩
