theorem k_Gi_35_10 : kU "WindBrides$Girl" 35 10 ⟨"WindBrides$Girl", "calls", "(I)I"⟩ "WindBrides$Girl" M_Br_calls 1 := ⟨kc_Br_calls, rfl, ⟨by decide, by decide⟩, _, _, _, rfl, z_mem 1156 (by decide +kernel) rfl, z_mem 1091 (by decide +kernel) rfl, Or.inr (z_memN 1108 (by decide +kernel) rfl), z_mem 1111 (by decide +kernel) rfl, z_mem 1093 (by decide +kernel) rfl⟩
set_option maxRecDepth 20000 in
theorem k_Gi_38_1 : kU "WindBrides$Girl" 38 1 ⟨"WindBrides$Girl", "shares", "(I)I"⟩ "WindBrides$Girl" M_Gi_shares 1 := ⟨kc_Gi_shares, rfl, ⟨by decide, by decide⟩, _, _, _, rfl, z_mem 1157 (by decide +kernel) rfl, z_mem 1117 (by decide +kernel) rfl, Or.inl ⟨z_mem 1115 (by decide +kernel) rfl, _, _, _, z_mem 1136 (by rfl) rfl⟩, z_mem 1118 (by decide +kernel) rfl, z_mem 1115 (by decide +kernel) rfl⟩
set_option maxRecDepth 20000 in
theorem k_Gi_38_2 : kU "WindBrides$Girl" 38 2 ⟨"WindBrides$Girl", "shares", "(I)I"⟩ "WindBrides$Girl" M_Ca_shares 1 := ⟨kc_Ca_shares, rfl, ⟨by decide, by decide⟩, _, _, _, rfl, z_mem 1157 (by decide +kernel) rfl, z_mem 1117 (by decide +kernel) rfl, Or.inl ⟨z_mem 1115 (by decide +kernel) rfl, _, _, _, z_mem 1136 (by rfl) rfl⟩, z_mem 1119 (by decide +kernel) rfl, z_mem 1120 (by decide +kernel) rfl⟩
set_option maxRecDepth 20000 in
theorem k_Gi_38_5 : kU "WindBrides$Girl" 38 5 ⟨"WindBrides$Girl", "shares", "(I)I"⟩ "WindBrides$Girl" M_Gi_shares 1 := ⟨kc_Gi_shares, rfl, ⟨by decide, by decide⟩, _, _, _, rfl, z_mem 1157 (by decide +kernel) rfl, z_mem 1117 (by decide +kernel) rfl, Or.inl ⟨z_mem 1115 (by decide +kernel) rfl, _, _, _, z_mem 1136 (by rfl) rfl⟩, z_mem 1116 (by decide +kernel) rfl, z_mem 1115 (by decide +kernel) rfl⟩
set_option maxRecDepth 20000 in
theorem k_Gi_38_6 : kU "WindBrides$Girl" 38 6 ⟨"WindBrides$Girl", "shares", "(I)I"⟩ "WindBrides$Girl" M_La_shares 1 := ⟨kc_La_shares, rfl, ⟨by decide, by decide⟩, _, _, _, rfl, z_mem 1157 (by decide +kernel) rfl, z_mem 1117 (by decide +kernel) rfl, Or.inl ⟨z_mem 1115 (by decide +kernel) rfl, _, _, _, z_mem 1136 (by rfl) rfl⟩, z_mem 1133 (by decide +kernel) rfl, z_mem 1123 (by decide +kernel) rfl⟩
set_option maxRecDepth 20000 in
theorem k_Gi_38_8 : kU "WindBrides$Girl" 38 8 ⟨"WindBrides$Girl", "shares", "(I)I"⟩ "WindBrides$Girl" M_Gi_shares 1 := ⟨kc_Gi_shares, rfl, ⟨by decide, by decide⟩, _, _, _, rfl, z_mem 1157 (by decide +kernel) rfl, z_mem 1117 (by decide +kernel) rfl, Or.inl ⟨z_mem 1115 (by decide +kernel) rfl, _, _, _, z_mem 1136 (by rfl) rfl⟩, z_mem 1134 (by decide +kernel) rfl, z_mem 1115 (by decide +kernel) rfl⟩
set_option maxRecDepth 20000 in
theorem k_Gi_38_10 : kU "WindBrides$Girl" 38 10 ⟨"WindBrides$Girl", "shares", "(I)I"⟩ "WindBrides$Girl" M_Gi_shares 1 := ⟨kc_Gi_shares, rfl, ⟨by decide, by decide⟩, _, _, _, rfl, z_mem 1157 (by decide +kernel) rfl, z_mem 1117 (by decide +kernel) rfl, Or.inl ⟨z_mem 1115 (by decide +kernel) rfl, _, _, _, z_mem 1136 (by rfl) rfl⟩, z_mem 1135 (by decide +kernel) rfl, z_mem 1115 (by decide +kernel) rfl⟩
theorem f_Wb_345_1 : zF "WindBrides" 345 1 3 .int false := ⟨R_Br, F_Br, 5, "WindBrides$Girl", t_Br, rfl, by decide, i_Br, z_mem 989 (by decide +kernel) rfl, Or.inl rfl, t_Br_ok, n_Br, rfl, by decide +kernel, by intro h; cases h⟩
theorem f_Wb_345_2 : zF "WindBrides" 345 2 3 .int false := ⟨R_Ca, F_Ca, 5, "WindBrides$Girl", t_Ca, rfl, by decide, i_Ca, z_mem 989 (by decide +kernel) rfl, Or.inl rfl, t_Ca_ok, n_Ca, rfl, by decide +kernel, by intro h; cases h⟩
theorem f_Wb_345_5 : zF "WindBrides" 345 5 3 .int false := ⟨R_Gi, F_Gi, 5, "WindBrides$Girl", t_Gi, rfl, by decide, i_Gi, z_mem 989 (by decide +kernel) rfl, Or.inl rfl, t_Gi_ok, n_Gi, rfl, by decide +kernel, by intro h; cases h⟩
theorem f_Wb_345_6 : zF "WindBrides" 345 6 3 .int false := ⟨R_La, F_La, 5, "WindBrides$Girl", t_La, rfl, by decide, i_La, z_mem 989 (by decide +kernel) rfl, Or.inl rfl, t_La_ok, n_La, rfl, by decide +kernel, by intro h; cases h⟩
theorem f_Wb_345_8 : zF "WindBrides" 345 8 3 .int false := ⟨R_Sh, F_Sh, 5, "WindBrides$Girl", t_Sh, rfl, by decide, i_Sh, z_mem 989 (by decide +kernel) rfl, Or.inl rfl, t_Sh_ok, n_Sh, rfl, by decide +kernel, by intro h; cases h⟩
theorem f_Wb_345_10 : zF "WindBrides" 345 10 3 .int false := ⟨R_Tw, F_Tw, 5, "WindBrides$Girl", t_Tw, rfl, by decide, i_Tw, z_mem 989 (by decide +kernel) rfl, Or.inl rfl, t_Tw_ok, n_Tw, rfl, by decide +kernel, by intro h; cases h⟩
theorem f_Wb_348_0 : zF "WindBrides" 348 0 0 .int false := ⟨R_Bk, F_Bk, 6, "WindBrides$Book", t_Bk, rfl, by decide, i_Bk, z_mem 172 (by decide +kernel) rfl, Or.inl rfl, t_Bk_ok, n_Bk, rfl, by decide +kernel, by intro h; cases h⟩
theorem f_Wb_351_7 : zF "WindBrides" 351 7 7 .int false := ⟨R_Pl, F_Pl, 13, "WindBrides$Plans", t_Pl, rfl, by decide, i_Pl, z_mem 318 (by decide +kernel) rfl, Or.inl rfl, t_Pl_ok, n_Pl, rfl, by decide +kernel, by intro h; cases h⟩
theorem f_Wb_354_9 : zF "WindBrides" 354 9 0 .int false := ⟨R_Ta, F_Ta, 5, "WindBrides$Tape", t_Ta, rfl, by decide, i_Ta, z_mem 276 (by decide +kernel) rfl, Or.inl rfl, t_Ta_ok, n_Ta, rfl, by decide +kernel, by intro h; cases h⟩
theorem k_Wb_357 : kV "WindBrides" 357 4 M_Cr_promisedSet 1 := ⟨kc_Cr_promisedSet, _, _, _, rfl, z_mem 784 (by decide +kernel) rfl, z_mem 785 (by decide +kernel) rfl, z_mem 1166 (by decide +kernel) rfl⟩
set_option maxRecDepth 20000 in
theorem kc_Ji_bitCount : kC M_Ji_bitCount 1 := ⟨z_mem 1169 (by rfl) rfl, z_mem 113 (by decide +kernel) rfl, ⟨by decide, by decide⟩, by decide +kernel, by decide⟩
theorem k_Wb_360 : kS "WindBrides" 360 M_Ji_bitCount 1 := ⟨kc_Ji_bitCount, z_mem 1168 (by decide +kernel) rfl, Or.inl (z_mem 1167 (by decide +kernel) rfl)⟩
theorem l_Ji_265 : Cond.constant "java/lang/Integer" 265 1431655765 ∈ zT := z_mem 1170 (by decide +kernel) rfl
theorem l_Ji_266 : Cond.constant "java/lang/Integer" 266 858993459 ∈ zT := z_mem 1171 (by decide +kernel) rfl
theorem l_Ji_267 : Cond.constant "java/lang/Integer" 267 252645135 ∈ zT := z_mem 1172 (by decide +kernel) rfl
set_option maxRecDepth 20000 in
theorem kc_Co_copyFrom : kC M_Co_copyFrom 1 := ⟨z_mem 1180 (by rfl) rfl, z_mem 102 (by decide +kernel) rfl, ⟨by decide, by decide⟩, by decide +kernel, by decide⟩
theorem k_Wb_363 : kV "WindBrides" 363 3 M_Co_copyFrom 1 := ⟨kc_Co_copyFrom, _, _, _, rfl, z_mem 1178 (by decide +kernel) rfl, z_mem 1179 (by decide +kernel) rfl, z_mem 1177 (by decide +kernel) rfl⟩
theorem f_Wb_366_11 : zF "WindBrides" 366 11 2 .boolean false := ⟨R_Wb, F_Wb, 15, "WindBrides", t_Wb, rfl, by decide, i_Wb, z_mem 354 (by decide +kernel) rfl, Or.inl rfl, t_Wb_ok, n_Wb, rfl, by decide +kernel, by intro h; cases h⟩
theorem ky_Co_63 : Cond.methodLink "WindBrides$Coast" 63 arraycopyName ∈ zT := z_mem 1181 (by decide +kernel) rfl
theorem f_Co_72_3 : zF "WindBrides$Coast" 72 3 10 .int false := ⟨R_Co, F_Co, 17, "WindBrides$Coast", t_Co, rfl, by decide, i_Co, z_mem 218 (by decide +kernel) rfl, Or.inl rfl, t_Co_ok, n_Co, rfl, by decide +kernel, by intro h; cases h⟩
theorem k_Co_75 : kV "WindBrides$Coast" 75 4 M_Cr_copyFrom 1 := ⟨kc_Cr_copyFrom, _, _, _, rfl, z_mem 681 (by decide +kernel) rfl, z_mem 682 (by decide +kernel) rfl, z_mem 1182 (by decide +kernel) rfl⟩
theorem k_Co_79 : kV "WindBrides$Coast" 79 0 M_Bk_copyFrom 1 := ⟨kc_Bk_copyFrom, _, _, _, rfl, z_mem 637 (by decide +kernel) rfl, z_mem 638 (by decide +kernel) rfl, z_mem 1183 (by decide +kernel) rfl⟩
theorem ko_Mo_1 : Cond.methodLink "WindBridesModel" 1 objectInit ∈ zT := z_mem 1193 (by decide +kernel) rfl
theorem f_Mo_9_12 : zF "WindBridesModel" 9 12 0 (.array .int) true := ⟨R_Mo, F_Mo, 34, "WindBridesModel", t_Mo, rfl, by decide, i_Mo, z_mem 1194 (by decide +kernel) rfl, Or.inl rfl, t_Mo_ok, n_Mo, rfl, by decide +kernel, fun _ => rfl⟩
theorem f_Mo_13_12 : zF "WindBridesModel" 13 12 1 (.array .int) true := ⟨R_Mo, F_Mo, 34, "WindBridesModel", t_Mo, rfl, by decide, i_Mo, z_mem 1195 (by decide +kernel) rfl, Or.inl rfl, t_Mo_ok, n_Mo, rfl, by decide +kernel, fun _ => rfl⟩
theorem f_Mo_16_12 : zF "WindBridesModel" 16 12 2 (.array .int) true := ⟨R_Mo, F_Mo, 34, "WindBridesModel", t_Mo, rfl, by decide, i_Mo, z_mem 1196 (by decide +kernel) rfl, Or.inl rfl, t_Mo_ok, n_Mo, rfl, by decide +kernel, fun _ => rfl⟩
theorem f_Mo_19_12 : zF "WindBridesModel" 19 12 4 (.array .int) true := ⟨R_Mo, F_Mo, 34, "WindBridesModel", t_Mo, rfl, by decide, i_Mo, z_mem 1198 (by decide +kernel) rfl, Or.inl rfl, t_Mo_ok, n_Mo, rfl, by decide +kernel, fun _ => rfl⟩
theorem f_Mo_22_12 : zF "WindBridesModel" 22 12 13 (.array .boolean) true := ⟨R_Mo, F_Mo, 34, "WindBridesModel", t_Mo, rfl, by decide, i_Mo, z_mem 1207 (by decide +kernel) rfl, Or.inl rfl, t_Mo_ok, n_Mo, rfl, by decide +kernel, fun _ => rfl⟩
theorem f_Mo_26_12 : zF "WindBridesModel" 26 12 15 (.array .int) true := ⟨R_Mo, F_Mo, 34, "WindBridesModel", t_Mo, rfl, by decide, i_Mo, z_mem 1209 (by decide +kernel) rfl, Or.inl rfl, t_Mo_ok, n_Mo, rfl, by decide +kernel, fun _ => rfl⟩
theorem f_Mo_29_12 : zF "WindBridesModel" 29 12 16 (.array .int) true := ⟨R_Mo, F_Mo, 34, "WindBridesModel", t_Mo, rfl, by decide, i_Mo, z_mem 1210 (by decide +kernel) rfl, Or.inl rfl, t_Mo_ok, n_Mo, rfl, by decide +kernel, fun _ => rfl⟩
theorem f_Mo_32_12 : zF "WindBridesModel" 32 12 21 (.array .int) true := ⟨R_Mo, F_Mo, 34, "WindBridesModel", t_Mo, rfl, by decide, i_Mo, z_mem 1215 (by decide +kernel) rfl, Or.inl rfl, t_Mo_ok, n_Mo, rfl, by decide +kernel, fun _ => rfl⟩
theorem f_Mo_35_12 : zF "WindBridesModel" 35 12 22 (.array .int) true := ⟨R_Mo, F_Mo, 34, "WindBridesModel", t_Mo, rfl, by decide, i_Mo, z_mem 1216 (by decide +kernel) rfl, Or.inl rfl, t_Mo_ok, n_Mo, rfl, by decide +kernel, fun _ => rfl⟩
theorem f_Mo_38_12 : zF "WindBridesModel" 38 12 24 (.array .int) true := ⟨R_Mo, F_Mo, 34, "WindBridesModel", t_Mo, rfl, by decide, i_Mo, z_mem 1218 (by decide +kernel) rfl, Or.inl rfl, t_Mo_ok, n_Mo, rfl, by decide +kernel, fun _ => rfl⟩
theorem f_Mo_41_12 : zF "WindBridesModel" 41 12 25 (.array .int) true := ⟨R_Mo, F_Mo, 34, "WindBridesModel", t_Mo, rfl, by decide, i_Mo, z_mem 1219 (by decide +kernel) rfl, Or.inl rfl, t_Mo_ok, n_Mo, rfl, by decide +kernel, fun _ => rfl⟩
theorem f_Mo_44_12 : zF "WindBridesModel" 44 12 26 (.array .int) true := ⟨R_Mo, F_Mo, 34, "WindBridesModel", t_Mo, rfl, by decide, i_Mo, z_mem 1220 (by decide +kernel) rfl, Or.inl rfl, t_Mo_ok, n_Mo, rfl, by decide +kernel, fun _ => rfl⟩
theorem f_Mo_47_12 : zF "WindBridesModel" 47 12 27 (.array .long) true := ⟨R_Mo, F_Mo, 34, "WindBridesModel", t_Mo, rfl, by decide, i_Mo, z_mem 1221 (by decide +kernel) rfl, Or.inl rfl, t_Mo_ok, n_Mo, rfl, by decide +kernel, fun _ => rfl⟩
theorem f_Mo_51_12 : zF "WindBridesModel" 51 12 28 (.array .int) true := ⟨R_Mo, F_Mo, 34, "WindBridesModel", t_Mo, rfl, by decide, i_Mo, z_mem 1222 (by decide +kernel) rfl, Or.inl rfl, t_Mo_ok, n_Mo, rfl, by decide +kernel, fun _ => rfl⟩
theorem f_Mo_54_12 : zF "WindBridesModel" 54 12 29 (.array .int) true := ⟨R_Mo, F_Mo, 34, "WindBridesModel", t_Mo, rfl, by decide, i_Mo, z_mem 1223 (by decide +kernel) rfl, Or.inl rfl, t_Mo_ok, n_Mo, rfl, by decide +kernel, fun _ => rfl⟩
theorem f_Mo_57_12 : zF "WindBridesModel" 57 12 30 (.array .int) true := ⟨R_Mo, F_Mo, 34, "WindBridesModel", t_Mo, rfl, by decide, i_Mo, z_mem 1224 (by decide +kernel) rfl, Or.inl rfl, t_Mo_ok, n_Mo, rfl, by decide +kernel, fun _ => rfl⟩
theorem f_Mo_60_12 : zF "WindBridesModel" 60 12 31 (.array .int) true := ⟨R_Mo, F_Mo, 34, "WindBridesModel", t_Mo, rfl, by decide, i_Mo, z_mem 1225 (by decide +kernel) rfl, Or.inl rfl, t_Mo_ok, n_Mo, rfl, by decide +kernel, fun _ => rfl⟩
set_option maxRecDepth 20000 in
theorem kc_Mo_in : kC M_Mo_in 3 := ⟨z_mem 1305 (by rfl) rfl, z_mem 107 (by decide +kernel) rfl, ⟨by decide, by decide⟩, by decide +kernel, by decide⟩
theorem k_Mo_67 : kS "WindBridesModel" 67 M_Mo_in 3 := ⟨kc_Mo_in, z_mem 1304 (by decide +kernel) rfl, Or.inl (z_mem 1303 (by decide +kernel) rfl)⟩
set_option maxRecDepth 20000 in
theorem kc_Mo_put : kC M_Mo_put 3 := ⟨z_mem 1309 (by rfl) rfl, z_mem 107 (by decide +kernel) rfl, ⟨by decide, by decide⟩, by decide +kernel, by decide⟩
theorem k_Mo_88 : kV "WindBridesModel" 88 12 M_Mo_put 3 := ⟨kc_Mo_put, _, _, _, rfl, z_mem 1308 (by decide +kernel) rfl, z_mem 35 (by decide +kernel) rfl, z_mem 1306 (by decide +kernel) rfl⟩
set_option maxRecDepth 20000 in
theorem kc_Mo_isGirl : kC M_Mo_isGirl 1 := ⟨z_mem 1317 (by rfl) rfl, z_mem 107 (by decide +kernel) rfl, ⟨by decide, by decide⟩, by decide +kernel, by decide⟩
theorem k_Mo_92 : kV "WindBridesModel" 92 12 M_Mo_isGirl 1 := ⟨kc_Mo_isGirl, _, _, _, rfl, z_mem 1316 (by decide +kernel) rfl, z_mem 36 (by decide +kernel) rfl, z_mem 1314 (by decide +kernel) rfl⟩
set_option maxRecDepth 20000 in
theorem kc_Mo_does : kC M_Mo_does 1 := ⟨z_mem 1321 (by rfl) rfl, z_mem 107 (by decide +kernel) rfl, ⟨by decide, by decide⟩, by decide +kernel, by decide⟩
theorem k_Mo_96 : kV "WindBridesModel" 96 12 M_Mo_does 1 := ⟨kc_Mo_does, _, _, _, rfl, z_mem 1320 (by decide +kernel) rfl, z_mem 37 (by decide +kernel) rfl, z_mem 1318 (by decide +kernel) rfl⟩
set_option maxRecDepth 20000 in
theorem kc_Mo_of : kC M_Mo_of 2 := ⟨z_mem 1325 (by rfl) rfl, z_mem 107 (by decide +kernel) rfl, ⟨by decide, by decide⟩, by decide +kernel, by decide⟩
theorem k_Mo_75 : kV "WindBridesModel" 75 12 M_Mo_of 2 := ⟨kc_Mo_of, _, _, _, rfl, z_mem 1324 (by decide +kernel) rfl, z_mem 38 (by decide +kernel) rfl, z_mem 1322 (by decide +kernel) rfl⟩
set_option maxRecDepth 20000 in
theorem kc_Mo_orSix : kC M_Mo_orSix 1 := ⟨z_mem 1342 (by rfl) rfl, z_mem 107 (by decide +kernel) rfl, ⟨by decide, by decide⟩, by decide +kernel, by decide⟩
theorem k_Mo_100 : kS "WindBridesModel" 100 M_Mo_orSix 1 := ⟨kc_Mo_orSix, z_mem 1341 (by decide +kernel) rfl, Or.inl (z_mem 1340 (by decide +kernel) rfl)⟩
set_option maxRecDepth 20000 in
theorem kc_Mo_isUnder : kC M_Mo_isUnder 2 := ⟨z_mem 1328 (by rfl) rfl, z_mem 107 (by decide +kernel) rfl, ⟨by decide, by decide⟩, by decide +kernel, by decide⟩
theorem k_Mo_209 : kS "WindBridesModel" 209 M_Mo_isUnder 2 := ⟨kc_Mo_isUnder, z_mem 1327 (by decide +kernel) rfl, Or.inl (z_mem 1326 (by decide +kernel) rfl)⟩
set_option maxRecDepth 20000 in
theorem kc_Mo_isHolding : kC M_Mo_isHolding 2 := ⟨z_mem 1332 (by rfl) rfl, z_mem 107 (by decide +kernel) rfl, ⟨by decide, by decide⟩, by decide +kernel, by decide⟩
theorem k_Mo_212 : kV "WindBridesModel" 212 12 M_Mo_isHolding 2 := ⟨kc_Mo_isHolding, _, _, _, rfl, z_mem 1331 (by decide +kernel) rfl, z_mem 39 (by decide +kernel) rfl, z_mem 1329 (by decide +kernel) rfl⟩
set_option maxRecDepth 20000 in
theorem kc_Mo_factOf : kC M_Mo_factOf 2 := ⟨z_mem 1336 (by rfl) rfl, z_mem 107 (by decide +kernel) rfl, ⟨by decide, by decide⟩, by decide +kernel, by decide⟩
theorem k_Mo_203 : kV "WindBridesModel" 203 12 M_Mo_factOf 2 := ⟨kc_Mo_factOf, _, _, _, rfl, z_mem 1335 (by decide +kernel) rfl, z_mem 40 (by decide +kernel) rfl, z_mem 1333 (by decide +kernel) rfl⟩
set_option maxRecDepth 20000 in
theorem kc_Mo_isSo : kC M_Mo_isSo 3 := ⟨z_mem 1339 (by rfl) rfl, z_mem 107 (by decide +kernel) rfl, ⟨by decide, by decide⟩, by decide +kernel, by decide⟩
theorem k_Mo_206 : kS "WindBridesModel" 206 M_Mo_isSo 3 := ⟨kc_Mo_isSo, z_mem 1338 (by decide +kernel) rfl, Or.inl (z_mem 1337 (by decide +kernel) rfl)⟩
set_option maxRecDepth 20000 in
theorem kc_Mo_becomes : kC M_Mo_becomes 2 := ⟨z_mem 1350 (by rfl) rfl, z_mem 107 (by decide +kernel) rfl, ⟨by decide, by decide⟩, by decide +kernel, by decide⟩
theorem k_Mo_103 : kV "WindBridesModel" 103 12 M_Mo_becomes 2 := ⟨kc_Mo_becomes, _, _, _, rfl, z_mem 1349 (by decide +kernel) rfl, z_mem 41 (by decide +kernel) rfl, z_mem 1347 (by decide +kernel) rfl⟩
set_option maxRecDepth 20000 in
theorem kc_Mo_isWind : kC M_Mo_isWind 1 := ⟨z_mem 1366 (by rfl) rfl, z_mem 107 (by decide +kernel) rfl, ⟨by decide, by decide⟩, by decide +kernel, by decide⟩
theorem k_Mo_106 : kV "WindBridesModel" 106 12 M_Mo_isWind 1 := ⟨kc_Mo_isWind, _, _, _, rfl, z_mem 1365 (by decide +kernel) rfl, z_mem 42 (by decide +kernel) rfl, z_mem 1363 (by decide +kernel) rfl⟩
set_option maxRecDepth 20000 in
theorem kc_Mo_blowing : kC M_Mo_blowing 2 := ⟨z_mem 1370 (by rfl) rfl, z_mem 107 (by decide +kernel) rfl, ⟨by decide, by decide⟩, by decide +kernel, by decide⟩
theorem k_Mo_71 : kV "WindBridesModel" 71 12 M_Mo_blowing 2 := ⟨kc_Mo_blowing, _, _, _, rfl, z_mem 1369 (by decide +kernel) rfl, z_mem 43 (by decide +kernel) rfl, z_mem 1367 (by decide +kernel) rfl⟩
set_option maxRecDepth 20000 in
theorem kc_Mo_promisedTo : kC M_Mo_promisedTo 1 := ⟨z_mem 1374 (by rfl) rfl, z_mem 107 (by decide +kernel) rfl, ⟨by decide, by decide⟩, by decide +kernel, by decide⟩
theorem k_Mo_109 : kV "WindBridesModel" 109 12 M_Mo_promisedTo 1 := ⟨kc_Mo_promisedTo, _, _, _, rfl, z_mem 1373 (by decide +kernel) rfl, z_mem 44 (by decide +kernel) rfl, z_mem 1371 (by decide +kernel) rfl⟩
set_option maxRecDepth 20000 in
theorem kc_Mo_blows : kC M_Mo_blows 2 := ⟨z_mem 1378 (by rfl) rfl, z_mem 107 (by decide +kernel) rfl, ⟨by decide, by decide⟩, by decide +kernel, by decide⟩
theorem k_Mo_112 : kV "WindBridesModel" 112 12 M_Mo_blows 2 := ⟨kc_Mo_blows, _, _, _, rfl, z_mem 1377 (by decide +kernel) rfl, z_mem 45 (by decide +kernel) rfl, z_mem 1375 (by decide +kernel) rfl⟩
set_option maxRecDepth 20000 in
theorem kc_Mo_gets : kC M_Mo_gets 2 := ⟨z_mem 1386 (by rfl) rfl, z_mem 107 (by decide +kernel) rfl, ⟨by decide, by decide⟩, by decide +kernel, by decide⟩
theorem k_Mo_116 : kV "WindBridesModel" 116 12 M_Mo_gets 2 := ⟨kc_Mo_gets, _, _, _, rfl, z_mem 1385 (by decide +kernel) rfl, z_mem 46 (by decide +kernel) rfl, z_mem 1383 (by decide +kernel) rfl⟩
set_option maxRecDepth 20000 in
theorem kc_Mo_gainOf : kC M_Mo_gainOf 3 := ⟨z_mem 1394 (by rfl) rfl, z_mem 107 (by decide +kernel) rfl, ⟨by decide, by decide⟩, by decide +kernel, by decide⟩
theorem k_Mo_120 : kV "WindBridesModel" 120 12 M_Mo_gainOf 3 := ⟨kc_Mo_gainOf, _, _, _, rfl, z_mem 1393 (by decide +kernel) rfl, z_mem 47 (by decide +kernel) rfl, z_mem 1391 (by decide +kernel) rfl⟩
set_option maxRecDepth 20000 in
theorem kc_Mo_turnOf : kC M_Mo_turnOf 2 := ⟨z_mem 1398 (by rfl) rfl, z_mem 107 (by decide +kernel) rfl, ⟨by decide, by decide⟩, by decide +kernel, by decide⟩
theorem k_Mo_81 : kV "WindBridesModel" 81 12 M_Mo_turnOf 2 := ⟨kc_Mo_turnOf, _, _, _, rfl, z_mem 1397 (by decide +kernel) rfl, z_mem 48 (by decide +kernel) rfl, z_mem 1395 (by decide +kernel) rfl⟩
set_option maxRecDepth 20000 in
theorem kc_Mo_gains : kC M_Mo_gains 4 := ⟨z_mem 1404 (by rfl) rfl, z_mem 107 (by decide +kernel) rfl, ⟨by decide, by decide⟩, by decide +kernel, by decide⟩
theorem k_Mo_84 : kS "WindBridesModel" 84 M_Mo_gains 4 := ⟨kc_Mo_gains, z_mem 1403 (by decide +kernel) rfl, Or.inl (z_mem 1402 (by decide +kernel) rfl)⟩
set_option maxRecDepth 20000 in
theorem kc_Mo_apart : kC M_Mo_apart 2 := ⟨z_mem 1401 (by rfl) rfl, z_mem 107 (by decide +kernel) rfl, ⟨by decide, by decide⟩, by decide +kernel, by decide⟩
theorem k_Mo_78 : kS "WindBridesModel" 78 M_Mo_apart 2 := ⟨kc_Mo_apart, z_mem 1400 (by decide +kernel) rfl, Or.inl (z_mem 1399 (by decide +kernel) rfl)⟩
set_option maxRecDepth 20000 in
theorem kc_Mo_isOver : kC M_Mo_isOver 0 := ⟨z_mem 1420 (by rfl) rfl, z_mem 107 (by decide +kernel) rfl, ⟨by decide, by decide⟩, by decide +kernel, by decide⟩
theorem k_Mo_124 : kV "WindBridesModel" 124 12 M_Mo_isOver 0 := ⟨kc_Mo_isOver, _, _, _, rfl, z_mem 1419 (by decide +kernel) rfl, z_mem 49 (by decide +kernel) rfl, z_mem 1417 (by decide +kernel) rfl⟩
theorem f_Mo_128_12 : zF "WindBridesModel" 128 12 5 .int false := ⟨R_Mo, F_Mo, 34, "WindBridesModel", t_Mo, rfl, by decide, i_Mo, z_mem 1199 (by decide +kernel) rfl, Or.inl rfl, t_Mo_ok, n_Mo, rfl, by decide +kernel, by intro h; cases h⟩
theorem l_Mo_132 : Cond.constantLong "WindBridesModel" 132 255 ∈ zT := z_mem 1425 (by decide +kernel) rfl
set_option maxRecDepth 20000 in
theorem kc_Mo_thinks : kC M_Mo_thinks 0 := ⟨z_mem 1433 (by rfl) rfl, z_mem 107 (by decide +kernel) rfl, ⟨by decide, by decide⟩, by decide +kernel, by decide⟩
theorem k_Mo_194 : kV "WindBridesModel" 194 12 M_Mo_thinks 0 := ⟨kc_Mo_thinks, _, _, _, rfl, z_mem 1432 (by decide +kernel) rfl, z_mem 50 (by decide +kernel) rfl, z_mem 1430 (by decide +kernel) rfl⟩
theorem f_Mo_140_12 : zF "WindBridesModel" 140 12 8 .int false := ⟨R_Mo, F_Mo, 34, "WindBridesModel", t_Mo, rfl, by decide, i_Mo, z_mem 1202 (by decide +kernel) rfl, Or.inl rfl, t_Mo_ok, n_Mo, rfl, by decide +kernel, by intro h; cases h⟩
theorem f_Mo_162_12 : zF "WindBridesModel" 162 12 10 .boolean false := ⟨R_Mo, F_Mo, 34, "WindBridesModel", t_Mo, rfl, by decide, i_Mo, z_mem 1204 (by decide +kernel) rfl, Or.inl rfl, t_Mo_ok, n_Mo, rfl, by decide +kernel, by intro h; cases h⟩
theorem f_Mo_175_12 : zF "WindBridesModel" 175 12 11 .int false := ⟨R_Mo, F_Mo, 34, "WindBridesModel", t_Mo, rfl, by decide, i_Mo, z_mem 1205 (by decide +kernel) rfl, Or.inl rfl, t_Mo_ok, n_Mo, rfl, by decide +kernel, by intro h; cases h⟩
theorem f_Mo_169_12 : zF "WindBridesModel" 169 12 12 .int false := ⟨R_Mo, F_Mo, 34, "WindBridesModel", t_Mo, rfl, by decide, i_Mo, z_mem 1206 (by decide +kernel) rfl, Or.inl rfl, t_Mo_ok, n_Mo, rfl, by decide +kernel, by intro h; cases h⟩
set_option maxRecDepth 20000 in
theorem kc_Mo_reads : kC M_Mo_reads 0 := ⟨z_mem 1440 (by rfl) rfl, z_mem 107 (by decide +kernel) rfl, ⟨by decide, by decide⟩, by decide +kernel, by decide⟩
theorem k_Mo_166 : kV "WindBridesModel" 166 12 M_Mo_reads 0 := ⟨kc_Mo_reads, _, _, _, rfl, z_mem 1439 (by decide +kernel) rfl, z_mem 51 (by decide +kernel) rfl, z_mem 1437 (by decide +kernel) rfl⟩
theorem f_Mo_152_12 : zF "WindBridesModel" 152 12 6 .int false := ⟨R_Mo, F_Mo, 34, "WindBridesModel", t_Mo, rfl, by decide, i_Mo, z_mem 1200 (by decide +kernel) rfl, Or.inl rfl, t_Mo_ok, n_Mo, rfl, by decide +kernel, by intro h; cases h⟩
set_option maxRecDepth 20000 in
theorem kc_Mo_ruleHere : kC M_Mo_ruleHere 0 := ⟨z_mem 1461 (by rfl) rfl, z_mem 107 (by decide +kernel) rfl, ⟨by decide, by decide⟩, by decide +kernel, by decide⟩
theorem k_Mo_197 : kV "WindBridesModel" 197 12 M_Mo_ruleHere 0 := ⟨kc_Mo_ruleHere, _, _, _, rfl, z_mem 1460 (by decide +kernel) rfl, z_mem 55 (by decide +kernel) rfl, z_mem 1458 (by decide +kernel) rfl⟩
set_option maxRecDepth 20000 in
theorem kc_Mo_putsBack : kC M_Mo_putsBack 0 := ⟨z_mem 1489 (by rfl) rfl, z_mem 107 (by decide +kernel) rfl, ⟨by decide, by decide⟩, by decide +kernel, by decide⟩
theorem k_Mo_200 : kV "WindBridesModel" 200 12 M_Mo_putsBack 0 := ⟨kc_Mo_putsBack, _, _, _, rfl, z_mem 1488 (by decide +kernel) rfl, z_mem 62 (by decide +kernel) rfl, z_mem 1486 (by decide +kernel) rfl⟩
theorem f_Mo_137_12 : zF "WindBridesModel" 137 12 7 .int false := ⟨R_Mo, F_Mo, 34, "WindBridesModel", t_Mo, rfl, by decide, i_Mo, z_mem 1201 (by decide +kernel) rfl, Or.inl rfl, t_Mo_ok, n_Mo, rfl, by decide +kernel, by intro h; cases h⟩
set_option maxRecDepth 20000 in
theorem kc_Mo_copyAll : kC M_Mo_copyAll 2 := ⟨z_mem 1436 (by rfl) rfl, z_mem 107 (by decide +kernel) rfl, ⟨by decide, by decide⟩, by decide +kernel, by decide⟩
theorem k_Mo_63 : kS "WindBridesModel" 63 M_Mo_copyAll 2 := ⟨kc_Mo_copyAll, z_mem 1435 (by decide +kernel) rfl, Or.inl (z_mem 1434 (by decide +kernel) rfl)⟩
set_option maxRecDepth 20000 in
theorem kc_Mo_isByte : kC M_Mo_isByte 3 := ⟨z_mem 1444 (by rfl) rfl, z_mem 107 (by decide +kernel) rfl, ⟨by decide, by decide⟩, by decide +kernel, by decide⟩
theorem k_Mo_146 : kV "WindBridesModel" 146 12 M_Mo_isByte 3 := ⟨kc_Mo_isByte, _, _, _, rfl, z_mem 1443 (by decide +kernel) rfl, z_mem 52 (by decide +kernel) rfl, z_mem 1441 (by decide +kernel) rfl⟩
theorem f_Mo_149_12 : zF "WindBridesModel" 149 12 9 .int false := ⟨R_Mo, F_Mo, 34, "WindBridesModel", t_Mo, rfl, by decide, i_Mo, z_mem 1203 (by decide +kernel) rfl, Or.inl rfl, t_Mo_ok, n_Mo, rfl, by decide +kernel, by intro h; cases h⟩
set_option maxRecDepth 20000 in
theorem kc_Mo_wordHere : kC M_Mo_wordHere 0 := ⟨z_mem 1448 (by rfl) rfl, z_mem 107 (by decide +kernel) rfl, ⟨by decide, by decide⟩, by decide +kernel, by decide⟩
theorem k_Mo_155 : kV "WindBridesModel" 155 12 M_Mo_wordHere 0 := ⟨kc_Mo_wordHere, _, _, _, rfl, z_mem 1447 (by decide +kernel) rfl, z_mem 53 (by decide +kernel) rfl, z_mem 1445 (by decide +kernel) rfl⟩
set_option maxRecDepth 20000 in
theorem kc_Mo_signOf : kC M_Mo_signOf 1 := ⟨z_mem 1457 (by rfl) rfl, z_mem 107 (by decide +kernel) rfl, ⟨by decide, by decide⟩, by decide +kernel, by decide⟩
theorem k_Mo_159 : kS "WindBridesModel" 159 M_Mo_signOf 1 := ⟨kc_Mo_signOf, z_mem 1456 (by decide +kernel) rfl, Or.inl (z_mem 1455 (by decide +kernel) rfl)⟩
set_option maxRecDepth 20000 in
theorem kc_Mo_isName : kC M_Mo_isName 2 := ⟨z_mem 1452 (by rfl) rfl, z_mem 107 (by decide +kernel) rfl, ⟨by decide, by decide⟩, by decide +kernel, by decide⟩
theorem k_Mo_143 : kV "WindBridesModel" 143 12 M_Mo_isName 2 := ⟨kc_Mo_isName, _, _, _, rfl, z_mem 1451 (by decide +kernel) rfl, z_mem 54 (by decide +kernel) rfl, z_mem 1449 (by decide +kernel) rfl⟩
theorem g_Mo_134 : Cond.fieldLink "WindBridesModel" 134 "WindBridesModel" "NAMES" "[I" ∈ zT := z_mem 1453 (by decide +kernel) rfl
set_option maxRecDepth 20000 in
theorem kc_Mo_passes : kC M_Mo_passes 1 := ⟨z_mem 1465 (by rfl) rfl, z_mem 107 (by decide +kernel) rfl, ⟨by decide, by decide⟩, by decide +kernel, by decide⟩
theorem k_Mo_172 : kV "WindBridesModel" 172 12 M_Mo_passes 1 := ⟨kc_Mo_passes, _, _, _, rfl, z_mem 1464 (by decide +kernel) rfl, z_mem 56 (by decide +kernel) rfl, z_mem 1462 (by decide +kernel) rfl⟩
set_option maxRecDepth 20000 in
theorem kc_Mo_condition : kC M_Mo_condition 0 := ⟨z_mem 1469 (by rfl) rfl, z_mem 107 (by decide +kernel) rfl, ⟨by decide, by decide⟩, by decide +kernel, by decide⟩
theorem k_Mo_178 : kV "WindBridesModel" 178 12 M_Mo_condition 0 := ⟨kc_Mo_condition, _, _, _, rfl, z_mem 1468 (by decide +kernel) rfl, z_mem 57 (by decide +kernel) rfl, z_mem 1466 (by decide +kernel) rfl⟩
set_option maxRecDepth 20000 in
theorem kc_Mo_all : kC M_Mo_all 0 := ⟨z_mem 1473 (by rfl) rfl, z_mem 107 (by decide +kernel) rfl, ⟨by decide, by decide⟩, by decide +kernel, by decide⟩
theorem k_Mo_191 : kV "WindBridesModel" 191 12 M_Mo_all 0 := ⟨kc_Mo_all, _, _, _, rfl, z_mem 1472 (by decide +kernel) rfl, z_mem 58 (by decide +kernel) rfl, z_mem 1470 (by decide +kernel) rfl⟩
set_option maxRecDepth 20000 in
theorem kc_Mo_step : kC M_Mo_step 1 := ⟨z_mem 1485 (by rfl) rfl, z_mem 107 (by decide +kernel) rfl, ⟨by decide, by decide⟩, by decide +kernel, by decide⟩
theorem k_Mo_184 : kV "WindBridesModel" 184 12 M_Mo_step 1 := ⟨kc_Mo_step, _, _, _, rfl, z_mem 1484 (by decide +kernel) rfl, z_mem 61 (by decide +kernel) rfl, z_mem 1482 (by decide +kernel) rfl⟩
set_option maxRecDepth 20000 in
theorem kc_Mo_one : kC M_Mo_one 0 := ⟨z_mem 1477 (by rfl) rfl, z_mem 107 (by decide +kernel) rfl, ⟨by decide, by decide⟩, by decide +kernel, by decide⟩
theorem k_Mo_188 : kV "WindBridesModel" 188 12 M_Mo_one 0 := ⟨kc_Mo_one, _, _, _, rfl, z_mem 1476 (by decide +kernel) rfl, z_mem 59 (by decide +kernel) rfl, z_mem 1474 (by decide +kernel) rfl⟩
set_option maxRecDepth 20000 in
theorem kc_Mo_side : kC M_Mo_side 0 := ⟨z_mem 1481 (by rfl) rfl, z_mem 107 (by decide +kernel) rfl, ⟨by decide, by decide⟩, by decide +kernel, by decide⟩
theorem k_Mo_181 : kV "WindBridesModel" 181 12 M_Mo_side 0 := ⟨kc_Mo_side, _, _, _, rfl, z_mem 1480 (by decide +kernel) rfl, z_mem 60 (by decide +kernel) rfl, z_mem 1478 (by decide +kernel) rfl⟩
set_option maxRecDepth 20000 in
theorem kc_Mo_goes : kC M_Mo_goes 1 := ⟨z_mem 1497 (by rfl) rfl, z_mem 107 (by decide +kernel) rfl, ⟨by decide, by decide⟩, by decide +kernel, by decide⟩
theorem k_Mo_227 : kV "WindBridesModel" 227 12 M_Mo_goes 1 := ⟨kc_Mo_goes, _, _, _, rfl, z_mem 1496 (by decide +kernel) rfl, z_mem 63 (by decide +kernel) rfl, z_mem 1494 (by decide +kernel) rfl⟩
theorem f_Mo_218_12 : zF "WindBridesModel" 218 12 14 .int false := ⟨R_Mo, F_Mo, 34, "WindBridesModel", t_Mo, rfl, by decide, i_Mo, z_mem 1208 (by decide +kernel) rfl, Or.inl rfl, t_Mo_ok, n_Mo, rfl, by decide +kernel, by intro h; cases h⟩
set_option maxRecDepth 20000 in
theorem kc_Mo_isCalmFor : kC M_Mo_isCalmFor 1 := ⟨z_mem 1501 (by rfl) rfl, z_mem 107 (by decide +kernel) rfl, ⟨by decide, by decide⟩, by decide +kernel, by decide⟩
theorem k_Mo_221 : kV "WindBridesModel" 221 12 M_Mo_isCalmFor 1 := ⟨kc_Mo_isCalmFor, _, _, _, rfl, z_mem 1500 (by decide +kernel) rfl, z_mem 64 (by decide +kernel) rfl, z_mem 1498 (by decide +kernel) rfl⟩
set_option maxRecDepth 20000 in
theorem kc_Mo_acts : kC M_Mo_acts 1 := ⟨z_mem 1505 (by rfl) rfl, z_mem 107 (by decide +kernel) rfl, ⟨by decide, by decide⟩, by decide +kernel, by decide⟩
theorem k_Mo_224 : kV "WindBridesModel" 224 12 M_Mo_acts 1 := ⟨kc_Mo_acts, _, _, _, rfl, z_mem 1504 (by decide +kernel) rfl, z_mem 65 (by decide +kernel) rfl, z_mem 1502 (by decide +kernel) rfl⟩
set_option maxRecDepth 20000 in
theorem kc_Mo_turns : kC M_Mo_turns 1 := ⟨z_mem 1509 (by rfl) rfl, z_mem 107 (by decide +kernel) rfl, ⟨by decide, by decide⟩, by decide +kernel, by decide⟩
theorem k_Mo_215 : kV "WindBridesModel" 215 12 M_Mo_turns 1 := ⟨kc_Mo_turns, _, _, _, rfl, z_mem 1508 (by decide +kernel) rfl, z_mem 66 (by decide +kernel) rfl, z_mem 1506 (by decide +kernel) rfl⟩
set_option maxRecDepth 20000 in
theorem kc_Mo_restOf : kC M_Mo_restOf 1 := ⟨z_mem 1517 (by rfl) rfl, z_mem 107 (by decide +kernel) rfl, ⟨by decide, by decide⟩, by decide +kernel, by decide⟩
theorem k_Mo_230 : kV "WindBridesModel" 230 12 M_Mo_restOf 1 := ⟨kc_Mo_restOf, _, _, _, rfl, z_mem 1516 (by decide +kernel) rfl, z_mem 67 (by decide +kernel) rfl, z_mem 1514 (by decide +kernel) rfl⟩
set_option maxRecDepth 20000 in
theorem kc_Mo_wouldLeave : kC M_Mo_wouldLeave 2 := ⟨z_mem 1541 (by rfl) rfl, z_mem 107 (by decide +kernel) rfl, ⟨by decide, by decide⟩, by decide +kernel, by decide⟩
theorem k_Mo_242 : kV "WindBridesModel" 242 12 M_Mo_wouldLeave 2 := ⟨kc_Mo_wouldLeave, _, _, _, rfl, z_mem 1540 (by decide +kernel) rfl, z_mem 68 (by decide +kernel) rfl, z_mem 1538 (by decide +kernel) rfl⟩
set_option maxRecDepth 20000 in
theorem kc_Mo_likes : kC M_Mo_likes 3 := ⟨z_mem 1545 (by rfl) rfl, z_mem 107 (by decide +kernel) rfl, ⟨by decide, by decide⟩, by decide +kernel, by decide⟩
theorem k_Mo_236 : kV "WindBridesModel" 236 12 M_Mo_likes 3 := ⟨kc_Mo_likes, _, _, _, rfl, z_mem 1544 (by decide +kernel) rfl, z_mem 69 (by decide +kernel) rfl, z_mem 1542 (by decide +kernel) rfl⟩
set_option maxRecDepth 20000 in
theorem kc_Mo_isLiked : kC M_Mo_isLiked 3 := ⟨z_mem 1553 (by rfl) rfl, z_mem 107 (by decide +kernel) rfl, ⟨by decide, by decide⟩, by decide +kernel, by decide⟩
theorem k_Mo_239 : kV "WindBridesModel" 239 12 M_Mo_isLiked 3 := ⟨kc_Mo_isLiked, _, _, _, rfl, z_mem 1552 (by decide +kernel) rfl, z_mem 71 (by decide +kernel) rfl, z_mem 1550 (by decide +kernel) rfl⟩
set_option maxRecDepth 20000 in
theorem kc_Mo_monthNow : kC M_Mo_monthNow 0 := ⟨z_mem 1549 (by rfl) rfl, z_mem 107 (by decide +kernel) rfl, ⟨by decide, by decide⟩, by decide +kernel, by decide⟩
theorem k_Mo_233 : kV "WindBridesModel" 233 12 M_Mo_monthNow 0 := ⟨kc_Mo_monthNow, _, _, _, rfl, z_mem 1548 (by decide +kernel) rfl, z_mem 70 (by decide +kernel) rfl, z_mem 1546 (by decide +kernel) rfl⟩
set_option maxRecDepth 20000 in
theorem kc_Mo_asks : kC M_Mo_asks 0 := ⟨z_mem 1565 (by rfl) rfl, z_mem 107 (by decide +kernel) rfl, ⟨by decide, by decide⟩, by decide +kernel, by decide⟩
theorem k_Mo_248 : kV "WindBridesModel" 248 12 M_Mo_asks 0 := ⟨kc_Mo_asks, _, _, _, rfl, z_mem 1564 (by decide +kernel) rfl, z_mem 72 (by decide +kernel) rfl, z_mem 1562 (by decide +kernel) rfl⟩
set_option maxRecDepth 20000 in
theorem kc_Mo_nextFor : kC M_Mo_nextFor 1 := ⟨z_mem 1569 (by rfl) rfl, z_mem 107 (by decide +kernel) rfl, ⟨by decide, by decide⟩, by decide +kernel, by decide⟩
theorem k_Mo_245 : kV "WindBridesModel" 245 12 M_Mo_nextFor 1 := ⟨kc_Mo_nextFor, _, _, _, rfl, z_mem 1568 (by decide +kernel) rfl, z_mem 73 (by decide +kernel) rfl, z_mem 1566 (by decide +kernel) rfl⟩
set_option maxRecDepth 20000 in
theorem kc_Mo_wouldSwap : kC M_Mo_wouldSwap 2 := ⟨z_mem 1577 (by rfl) rfl, z_mem 107 (by decide +kernel) rfl, ⟨by decide, by decide⟩, by decide +kernel, by decide⟩
theorem k_Mo_251 : kV "WindBridesModel" 251 12 M_Mo_wouldSwap 2 := ⟨kc_Mo_wouldSwap, _, _, _, rfl, z_mem 1576 (by decide +kernel) rfl, z_mem 74 (by decide +kernel) rfl, z_mem 1574 (by decide +kernel) rfl⟩
set_option maxRecDepth 20000 in
theorem kc_Mo_findBest : kC M_Mo_findBest 1 := ⟨z_mem 1585 (by rfl) rfl, z_mem 107 (by decide +kernel) rfl, ⟨by decide, by decide⟩, by decide +kernel, by decide⟩
theorem k_Mo_281 : kV "WindBridesModel" 281 12 M_Mo_findBest 1 := ⟨kc_Mo_findBest, _, _, _, rfl, z_mem 1584 (by decide +kernel) rfl, z_mem 75 (by decide +kernel) rfl, z_mem 1582 (by decide +kernel) rfl⟩
theorem f_Mo_269_12 : zF "WindBridesModel" 269 12 19 .int false := ⟨R_Mo, F_Mo, 34, "WindBridesModel", t_Mo, rfl, by decide, i_Mo, z_mem 1213 (by decide +kernel) rfl, Or.inl rfl, t_Mo_ok, n_Mo, rfl, by decide +kernel, by intro h; cases h⟩
set_option maxRecDepth 20000 in
theorem kc_Mo_monthsOf : kC M_Mo_monthsOf 1 := ⟨z_mem 1589 (by rfl) rfl, z_mem 107 (by decide +kernel) rfl, ⟨by decide, by decide⟩, by decide +kernel, by decide⟩
theorem k_Mo_254 : kV "WindBridesModel" 254 12 M_Mo_monthsOf 1 := ⟨kc_Mo_monthsOf, _, _, _, rfl, z_mem 1588 (by decide +kernel) rfl, z_mem 76 (by decide +kernel) rfl, z_mem 1586 (by decide +kernel) rfl⟩
set_option maxRecDepth 20000 in
theorem kc_Mo_plansOf : kC M_Mo_plansOf 1 := ⟨z_mem 1593 (by rfl) rfl, z_mem 107 (by decide +kernel) rfl, ⟨by decide, by decide⟩, by decide +kernel, by decide⟩
theorem k_Mo_266 : kV "WindBridesModel" 266 12 M_Mo_plansOf 1 := ⟨kc_Mo_plansOf, _, _, _, rfl, z_mem 1592 (by decide +kernel) rfl, z_mem 77 (by decide +kernel) rfl, z_mem 1590 (by decide +kernel) rfl⟩
set_option maxRecDepth 20000 in
theorem kc_Mo_worthOf : kC M_Mo_worthOf 2 := ⟨z_mem 1597 (by rfl) rfl, z_mem 107 (by decide +kernel) rfl, ⟨by decide, by decide⟩, by decide +kernel, by decide⟩
theorem k_Mo_272 : kV "WindBridesModel" 272 12 M_Mo_worthOf 2 := ⟨kc_Mo_worthOf, _, _, _, rfl, z_mem 1596 (by decide +kernel) rfl, z_mem 78 (by decide +kernel) rfl, z_mem 1594 (by decide +kernel) rfl⟩
theorem f_Mo_275_12 : zF "WindBridesModel" 275 12 20 .int false := ⟨R_Mo, F_Mo, 34, "WindBridesModel", t_Mo, rfl, by decide, i_Mo, z_mem 1214 (by decide +kernel) rfl, Or.inl rfl, t_Mo_ok, n_Mo, rfl, by decide +kernel, by intro h; cases h⟩
theorem f_Mo_278_12 : zF "WindBridesModel" 278 12 18 .int false := ⟨R_Mo, F_Mo, 34, "WindBridesModel", t_Mo, rfl, by decide, i_Mo, z_mem 1212 (by decide +kernel) rfl, Or.inl rfl, t_Mo_ok, n_Mo, rfl, by decide +kernel, by intro h; cases h⟩
set_option maxRecDepth 20000 in
theorem kc_Mo_digit : kC M_Mo_digit 4 := ⟨z_mem 1600 (by rfl) rfl, z_mem 107 (by decide +kernel) rfl, ⟨by decide, by decide⟩, by decide +kernel, by decide⟩
theorem k_Mo_257 : kS "WindBridesModel" 257 M_Mo_digit 4 := ⟨kc_Mo_digit, z_mem 1599 (by decide +kernel) rfl, Or.inl (z_mem 1598 (by decide +kernel) rfl)⟩
set_option maxRecDepth 20000 in
theorem kc_Mo_promised : kC M_Mo_promised 0 := ⟨z_mem 1604 (by rfl) rfl, z_mem 107 (by decide +kernel) rfl, ⟨by decide, by decide⟩, by decide +kernel, by decide⟩
theorem k_Mo_260 : kV "WindBridesModel" 260 12 M_Mo_promised 0 := ⟨kc_Mo_promised, _, _, _, rfl, z_mem 1603 (by decide +kernel) rfl, z_mem 79 (by decide +kernel) rfl, z_mem 1601 (by decide +kernel) rfl⟩
theorem f_Mo_263_12 : zF "WindBridesModel" 263 12 17 .int false := ⟨R_Mo, F_Mo, 34, "WindBridesModel", t_Mo, rfl, by decide, i_Mo, z_mem 1211 (by decide +kernel) rfl, Or.inl rfl, t_Mo_ok, n_Mo, rfl, by decide +kernel, by intro h; cases h⟩
set_option maxRecDepth 20000 in
theorem kc_Mo_isSet : kC M_Mo_isSet 1 := ⟨z_mem 1620 (by rfl) rfl, z_mem 107 (by decide +kernel) rfl, ⟨by decide, by decide⟩, by decide +kernel, by decide⟩
theorem k_Mo_284 : kV "WindBridesModel" 284 12 M_Mo_isSet 1 := ⟨kc_Mo_isSet, _, _, _, rfl, z_mem 1619 (by decide +kernel) rfl, z_mem 80 (by decide +kernel) rfl, z_mem 1617 (by decide +kernel) rfl⟩
set_option maxRecDepth 20000 in
theorem kc_Mo_actsIn : kC M_Mo_actsIn 2 := ⟨z_mem 1624 (by rfl) rfl, z_mem 107 (by decide +kernel) rfl, ⟨by decide, by decide⟩, by decide +kernel, by decide⟩
theorem k_Mo_287 : kV "WindBridesModel" 287 12 M_Mo_actsIn 2 := ⟨kc_Mo_actsIn, _, _, _, rfl, z_mem 1623 (by decide +kernel) rfl, z_mem 81 (by decide +kernel) rfl, z_mem 1621 (by decide +kernel) rfl⟩
set_option maxRecDepth 20000 in
theorem kc_Mo_gameOn : kC M_Mo_gameOn 2 := ⟨z_mem 1636 (by rfl) rfl, z_mem 107 (by decide +kernel) rfl, ⟨by decide, by decide⟩, by decide +kernel, by decide⟩
theorem k_Mo_290 : kV "WindBridesModel" 290 12 M_Mo_gameOn 2 := ⟨kc_Mo_gameOn, _, _, _, rfl, z_mem 1635 (by decide +kernel) rfl, z_mem 82 (by decide +kernel) rfl, z_mem 1633 (by decide +kernel) rfl⟩
set_option maxRecDepth 20000 in
theorem kc_Mo_strange : kC M_Mo_strange 1 := ⟨z_mem 1656 (by rfl) rfl, z_mem 107 (by decide +kernel) rfl, ⟨by decide, by decide⟩, by decide +kernel, by decide⟩
theorem k_Mo_297 : kV "WindBridesModel" 297 12 M_Mo_strange 1 := ⟨kc_Mo_strange, _, _, _, rfl, z_mem 1655 (by decide +kernel) rfl, z_mem 83 (by decide +kernel) rfl, z_mem 1653 (by decide +kernel) rfl⟩
set_option maxRecDepth 20000 in
theorem kc_Mo_fits : kC M_Mo_fits 3 := ⟨z_mem 1660 (by rfl) rfl, z_mem 107 (by decide +kernel) rfl, ⟨by decide, by decide⟩, by decide +kernel, by decide⟩
theorem k_Mo_294 : kV "WindBridesModel" 294 12 M_Mo_fits 3 := ⟨kc_Mo_fits, _, _, _, rfl, z_mem 1659 (by decide +kernel) rfl, z_mem 84 (by decide +kernel) rfl, z_mem 1657 (by decide +kernel) rfl⟩
set_option maxRecDepth 20000 in
theorem kc_Mo_byLot : kC M_Mo_byLot 0 := ⟨z_mem 1676 (by rfl) rfl, z_mem 107 (by decide +kernel) rfl, ⟨by decide, by decide⟩, by decide +kernel, by decide⟩
theorem k_Mo_301 : kV "WindBridesModel" 301 12 M_Mo_byLot 0 := ⟨kc_Mo_byLot, _, _, _, rfl, z_mem 1675 (by decide +kernel) rfl, z_mem 85 (by decide +kernel) rfl, z_mem 1673 (by decide +kernel) rfl⟩
theorem l_Mo_300 : Cond.constant "WindBridesModel" 300 1103515245 ∈ zT := z_mem 1677 (by decide +kernel) rfl
theorem f_Mo_304_12 : zF "WindBridesModel" 304 12 23 .int false := ⟨R_Mo, F_Mo, 34, "WindBridesModel", t_Mo, rfl, by decide, i_Mo, z_mem 1217 (by decide +kernel) rfl, Or.inl rfl, t_Mo_ok, n_Mo, rfl, by decide +kernel, by intro h; cases h⟩
set_option maxRecDepth 20000 in
theorem kc_Mo_isRow : kC M_Mo_isRow 2 := ⟨z_mem 1693 (by rfl) rfl, z_mem 107 (by decide +kernel) rfl, ⟨by decide, by decide⟩, by decide +kernel, by decide⟩
theorem k_Mo_307 : kV "WindBridesModel" 307 12 M_Mo_isRow 2 := ⟨kc_Mo_isRow, _, _, _, rfl, z_mem 1692 (by decide +kernel) rfl, z_mem 86 (by decide +kernel) rfl, z_mem 1690 (by decide +kernel) rfl⟩
set_option maxRecDepth 20000 in
theorem kc_Mo_isFour : kC M_Mo_isFour 1 := ⟨z_mem 1708 (by rfl) rfl, z_mem 107 (by decide +kernel) rfl, ⟨by decide, by decide⟩, by decide +kernel, by decide⟩
theorem k_Mo_310 : kS "WindBridesModel" 310 M_Mo_isFour 1 := ⟨kc_Mo_isFour, z_mem 1707 (by decide +kernel) rfl, Or.inl (z_mem 1706 (by decide +kernel) rfl)⟩
set_option maxRecDepth 20000 in
theorem kc_Mo_notActs : kC M_Mo_notActs 2 := ⟨z_mem 1724 (by rfl) rfl, z_mem 107 (by decide +kernel) rfl, ⟨by decide, by decide⟩, by decide +kernel, by decide⟩
theorem k_Mo_313 : kV "WindBridesModel" 313 12 M_Mo_notActs 2 := ⟨kc_Mo_notActs, _, _, _, rfl, z_mem 1723 (by decide +kernel) rfl, z_mem 87 (by decide +kernel) rfl, z_mem 1721 (by decide +kernel) rfl⟩
set_option maxRecDepth 20000 in
theorem kc_Mo_isPlace : kC M_Mo_isPlace 2 := ⟨z_mem 1728 (by rfl) rfl, z_mem 107 (by decide +kernel) rfl, ⟨by decide, by decide⟩, by decide +kernel, by decide⟩
theorem k_Mo_316 : kV "WindBridesModel" 316 12 M_Mo_isPlace 2 := ⟨kc_Mo_isPlace, _, _, _, rfl, z_mem 1727 (by decide +kernel) rfl, z_mem 88 (by decide +kernel) rfl, z_mem 1725 (by decide +kernel) rfl⟩
set_option maxRecDepth 20000 in
theorem kc_Mo_hasGirl : kC M_Mo_hasGirl 1 := ⟨z_mem 1744 (by rfl) rfl, z_mem 107 (by decide +kernel) rfl, ⟨by decide, by decide⟩, by decide +kernel, by decide⟩
theorem k_Mo_320 : kV "WindBridesModel" 320 12 M_Mo_hasGirl 1 := ⟨kc_Mo_hasGirl, _, _, _, rfl, z_mem 1743 (by decide +kernel) rfl, z_mem 89 (by decide +kernel) rfl, z_mem 1741 (by decide +kernel) rfl⟩
theorem f_Mo_323_12 : zF "WindBridesModel" 323 12 32 .int false := ⟨R_Mo, F_Mo, 34, "WindBridesModel", t_Mo, rfl, by decide, i_Mo, z_mem 1226 (by decide +kernel) rfl, Or.inl rfl, t_Mo_ok, n_Mo, rfl, by decide +kernel, by intro h; cases h⟩
theorem f_Mo_338_12 : zF "WindBridesModel" 338 12 33 .boolean false := ⟨R_Mo, F_Mo, 34, "WindBridesModel", t_Mo, rfl, by decide, i_Mo, z_mem 1227 (by decide +kernel) rfl, Or.inl rfl, t_Mo_ok, n_Mo, rfl, by decide +kernel, by intro h; cases h⟩
set_option maxRecDepth 20000 in
theorem kc_Mo_sails : kC M_Mo_sails 2 := ⟨z_mem 1752 (by rfl) rfl, z_mem 107 (by decide +kernel) rfl, ⟨by decide, by decide⟩, by decide +kernel, by decide⟩
theorem k_Mo_332 : kV "WindBridesModel" 332 12 M_Mo_sails 2 := ⟨kc_Mo_sails, _, _, _, rfl, z_mem 1751 (by decide +kernel) rfl, z_mem 90 (by decide +kernel) rfl, z_mem 1749 (by decide +kernel) rfl⟩
set_option maxRecDepth 20000 in
theorem kc_Mo_calls : kC M_Mo_calls 2 := ⟨z_mem 1764 (by rfl) rfl, z_mem 107 (by decide +kernel) rfl, ⟨by decide, by decide⟩, by decide +kernel, by decide⟩
theorem k_Mo_347 : kV "WindBridesModel" 347 12 M_Mo_calls 2 := ⟨kc_Mo_calls, _, _, _, rfl, z_mem 1763 (by decide +kernel) rfl, z_mem 93 (by decide +kernel) rfl, z_mem 1761 (by decide +kernel) rfl⟩
set_option maxRecDepth 20000 in
theorem kc_Mo_shares : kC M_Mo_shares 2 := ⟨z_mem 1772 (by rfl) rfl, z_mem 107 (by decide +kernel) rfl, ⟨by decide, by decide⟩, by decide +kernel, by decide⟩
theorem k_Mo_350 : kV "WindBridesModel" 350 12 M_Mo_shares 2 := ⟨kc_Mo_shares, _, _, _, rfl, z_mem 1771 (by decide +kernel) rfl, z_mem 95 (by decide +kernel) rfl, z_mem 1769 (by decide +kernel) rfl⟩
set_option maxRecDepth 20000 in
theorem kc_Mo_weds : kC M_Mo_weds 2 := ⟨z_mem 1784 (by rfl) rfl, z_mem 107 (by decide +kernel) rfl, ⟨by decide, by decide⟩, by decide +kernel, by decide⟩
theorem k_Mo_356 : kV "WindBridesModel" 356 12 M_Mo_weds 2 := ⟨kc_Mo_weds, _, _, _, rfl, z_mem 1783 (by decide +kernel) rfl, z_mem 98 (by decide +kernel) rfl, z_mem 1781 (by decide +kernel) rfl⟩
set_option maxRecDepth 20000 in
theorem kc_Mo_begins : kC M_Mo_begins 1 := ⟨z_mem 1756 (by rfl) rfl, z_mem 107 (by decide +kernel) rfl, ⟨by decide, by decide⟩, by decide +kernel, by decide⟩
theorem k_Mo_326 : kV "WindBridesModel" 326 12 M_Mo_begins 1 := ⟨kc_Mo_begins, _, _, _, rfl, z_mem 1755 (by decide +kernel) rfl, z_mem 91 (by decide +kernel) rfl, z_mem 1753 (by decide +kernel) rfl⟩
set_option maxRecDepth 20000 in
theorem kc_Mo_plainSails : kC M_Mo_plainSails 2 := ⟨z_mem 1760 (by rfl) rfl, z_mem 107 (by decide +kernel) rfl, ⟨by decide, by decide⟩, by decide +kernel, by decide⟩
theorem k_Mo_329 : kV "WindBridesModel" 329 12 M_Mo_plainSails 2 := ⟨kc_Mo_plainSails, _, _, _, rfl, z_mem 1759 (by decide +kernel) rfl, z_mem 92 (by decide +kernel) rfl, z_mem 1757 (by decide +kernel) rfl⟩
set_option maxRecDepth 20000 in
theorem kc_Mo_plainCalls : kC M_Mo_plainCalls 2 := ⟨z_mem 1768 (by rfl) rfl, z_mem 107 (by decide +kernel) rfl, ⟨by decide, by decide⟩, by decide +kernel, by decide⟩
theorem k_Mo_335 : kV "WindBridesModel" 335 12 M_Mo_plainCalls 2 := ⟨kc_Mo_plainCalls, _, _, _, rfl, z_mem 1767 (by decide +kernel) rfl, z_mem 94 (by decide +kernel) rfl, z_mem 1765 (by decide +kernel) rfl⟩
set_option maxRecDepth 20000 in
theorem kc_Mo_lateShares : kC M_Mo_lateShares 2 := ⟨z_mem 1776 (by rfl) rfl, z_mem 107 (by decide +kernel) rfl, ⟨by decide, by decide⟩, by decide +kernel, by decide⟩
theorem k_Mo_344 : kV "WindBridesModel" 344 12 M_Mo_lateShares 2 := ⟨kc_Mo_lateShares, _, _, _, rfl, z_mem 1775 (by decide +kernel) rfl, z_mem 96 (by decide +kernel) rfl, z_mem 1773 (by decide +kernel) rfl⟩
set_option maxRecDepth 20000 in
theorem kc_Mo_plainShares : kC M_Mo_plainShares 2 := ⟨z_mem 1780 (by rfl) rfl, z_mem 107 (by decide +kernel) rfl, ⟨by decide, by decide⟩, by decide +kernel, by decide⟩
theorem k_Mo_341 : kV "WindBridesModel" 341 12 M_Mo_plainShares 2 := ⟨kc_Mo_plainShares, _, _, _, rfl, z_mem 1779 (by decide +kernel) rfl, z_mem 97 (by decide +kernel) rfl, z_mem 1777 (by decide +kernel) rfl⟩
set_option maxRecDepth 20000 in
theorem kc_Mo_plainWeds : kC M_Mo_plainWeds 2 := ⟨z_mem 1788 (by rfl) rfl, z_mem 107 (by decide +kernel) rfl, ⟨by decide, by decide⟩, by decide +kernel, by decide⟩
theorem k_Mo_353 : kV "WindBridesModel" 353 12 M_Mo_plainWeds 2 := ⟨kc_Mo_plainWeds, _, _, _, rfl, z_mem 1787 (by decide +kernel) rfl, z_mem 99 (by decide +kernel) rfl, z_mem 1785 (by decide +kernel) rfl⟩
set_option maxRecDepth 20000 in
theorem kc_Mo_bits : kC M_Mo_bits 1 := ⟨z_mem 1799 (by rfl) rfl, z_mem 107 (by decide +kernel) rfl, ⟨by decide, by decide⟩, by decide +kernel, by decide⟩
theorem k_Mo_359 : kS "WindBridesModel" 359 M_Mo_bits 1 := ⟨kc_Mo_bits, z_mem 1798 (by decide +kernel) rfl, Or.inl (z_mem 1797 (by decide +kernel) rfl)⟩
theorem f_Mo_362_12 : zF "WindBridesModel" 362 12 3 .boolean false := ⟨R_Mo, F_Mo, 34, "WindBridesModel", t_Mo, rfl, by decide, i_Mo, z_mem 1197 (by decide +kernel) rfl, Or.inl rfl, t_Mo_ok, n_Mo, rfl, by decide +kernel, by intro h; cases h⟩
theorem w_Lw_7 : zN "WindBridesLaw" 7 11 15 [.null, .null, .int 0, .null, .null, .null, .null, .null, .null, .null, .null, .null, .null, .null, .null] := ⟨R_Wb, F_Wb, t_Wb, rfl, i_Wb, t_Wb_ok, z_mem 120 (by decide +kernel) rfl, z_mem 121 (by decide +kernel) rfl, z_mem 101 (by decide +kernel) rfl, by decide +kernel, by decide⟩
set_option maxRecDepth 20000 in
theorem kc_Wb_init : kC M_Wb_init 0 := ⟨z_mem 124 (by rfl) rfl, z_mem 101 (by decide +kernel) rfl, ⟨by decide, by decide⟩, by decide +kernel, by decide⟩
theorem k_Lw_9 : kI "WindBridesLaw" 9 M_Wb_init 0 := ⟨kc_Wb_init, rfl, rfl, z_mem 123 (by decide +kernel) rfl, Or.inl (z_mem 122 (by decide +kernel) rfl)⟩
theorem w_Lw_10 : zN "WindBridesLaw" 10 12 34 [.null, .null, .null, .int 0, .null, .int 0, .int 0, .int 0, .int 0, .int 0, .int 0, .int 0, .int 0, .null, .int 0, .null, .null, .int 0, .int 0, .int 0, .int 0, .null, .null, .int 0, .null, .null, .null, .null, .null, .null, .null, .null, .int 0, .int 0] := ⟨R_Mo, F_Mo, t_Mo, rfl, i_Mo, t_Mo_ok, z_mem 1188 (by decide +kernel) rfl, z_mem 1189 (by decide +kernel) rfl, z_mem 107 (by decide +kernel) rfl, by decide +kernel, by decide⟩
set_option maxRecDepth 20000 in
theorem kc_Mo_init : kC M_Mo_init 0 := ⟨z_mem 1192 (by rfl) rfl, z_mem 107 (by decide +kernel) rfl, ⟨by decide, by decide⟩, by decide +kernel, by decide⟩
theorem k_Lw_12 : kI "WindBridesLaw" 12 M_Mo_init 0 := ⟨kc_Mo_init, rfl, rfl, z_mem 1191 (by decide +kernel) rfl, Or.inl (z_mem 1190 (by decide +kernel) rfl)⟩
set_option maxRecDepth 20000 in
theorem kc_Wb_girl : kC M_Wb_girl 3 := ⟨z_mem 401 (by rfl) rfl, z_mem 101 (by decide +kernel) rfl, ⟨by decide, by decide⟩, by decide +kernel, by decide⟩
theorem k_Lw_13 : kV "WindBridesLaw" 13 11 M_Wb_girl 3 := ⟨kc_Wb_girl, _, _, _, rfl, z_mem 399 (by decide +kernel) rfl, z_mem 400 (by decide +kernel) rfl, z_mem 398 (by decide +kernel) rfl⟩
set_option maxRecDepth 20000 in
theorem kc_Mo_girl : kC M_Mo_girl 3 := ⟨z_mem 1302 (by rfl) rfl, z_mem 107 (by decide +kernel) rfl, ⟨by decide, by decide⟩, by decide +kernel, by decide⟩
theorem k_Lw_17 : kV "WindBridesLaw" 17 12 M_Mo_girl 3 := ⟨kc_Mo_girl, _, _, _, rfl, z_mem 1300 (by decide +kernel) rfl, z_mem 1301 (by decide +kernel) rfl, z_mem 1299 (by decide +kernel) rfl⟩
set_option maxRecDepth 20000 in
theorem kc_Wb_girlOf : kC M_Wb_girlOf 2 := ⟨z_mem 416 (by rfl) rfl, z_mem 101 (by decide +kernel) rfl, ⟨by decide, by decide⟩, by decide +kernel, by decide⟩
theorem k_Lw_18 : kV "WindBridesLaw" 18 11 M_Wb_girlOf 2 := ⟨kc_Wb_girlOf, _, _, _, rfl, z_mem 414 (by decide +kernel) rfl, z_mem 415 (by decide +kernel) rfl, z_mem 413 (by decide +kernel) rfl⟩
set_option maxRecDepth 20000 in
theorem kc_Mo_girlOf : kC M_Mo_girlOf 2 := ⟨z_mem 1313 (by rfl) rfl, z_mem 107 (by decide +kernel) rfl, ⟨by decide, by decide⟩, by decide +kernel, by decide⟩
theorem k_Lw_22 : kV "WindBridesLaw" 22 12 M_Mo_girlOf 2 := ⟨kc_Mo_girlOf, _, _, _, rfl, z_mem 1311 (by decide +kernel) rfl, z_mem 1312 (by decide +kernel) rfl, z_mem 1310 (by decide +kernel) rfl⟩
set_option maxRecDepth 20000 in
theorem kc_Wb_change : kC M_Wb_change 3 := ⟨z_mem 445 (by rfl) rfl, z_mem 101 (by decide +kernel) rfl, ⟨by decide, by decide⟩, by decide +kernel, by decide⟩
theorem k_Lw_23 : kV "WindBridesLaw" 23 11 M_Wb_change 3 := ⟨kc_Wb_change, _, _, _, rfl, z_mem 443 (by decide +kernel) rfl, z_mem 444 (by decide +kernel) rfl, z_mem 442 (by decide +kernel) rfl⟩
set_option maxRecDepth 20000 in
theorem kc_Mo_change : kC M_Mo_change 3 := ⟨z_mem 1346 (by rfl) rfl, z_mem 107 (by decide +kernel) rfl, ⟨by decide, by decide⟩, by decide +kernel, by decide⟩
theorem k_Lw_26 : kV "WindBridesLaw" 26 12 M_Mo_change 3 := ⟨kc_Mo_change, _, _, _, rfl, z_mem 1344 (by decide +kernel) rfl, z_mem 1345 (by decide +kernel) rfl, z_mem 1343 (by decide +kernel) rfl⟩
set_option maxRecDepth 20000 in
theorem kc_Wb_remake : kC M_Wb_remake 2 := ⟨z_mem 449 (by rfl) rfl, z_mem 101 (by decide +kernel) rfl, ⟨by decide, by decide⟩, by decide +kernel, by decide⟩
theorem k_Lw_27 : kV "WindBridesLaw" 27 11 M_Wb_remake 2 := ⟨kc_Wb_remake, _, _, _, rfl, z_mem 447 (by decide +kernel) rfl, z_mem 448 (by decide +kernel) rfl, z_mem 446 (by decide +kernel) rfl⟩
set_option maxRecDepth 20000 in
theorem kc_Mo_remake : kC M_Mo_remake 2 := ⟨z_mem 1354 (by rfl) rfl, z_mem 107 (by decide +kernel) rfl, ⟨by decide, by decide⟩, by decide +kernel, by decide⟩
theorem k_Lw_30 : kV "WindBridesLaw" 30 12 M_Mo_remake 2 := ⟨kc_Mo_remake, _, _, _, rfl, z_mem 1352 (by decide +kernel) rfl, z_mem 1353 (by decide +kernel) rfl, z_mem 1351 (by decide +kernel) rfl⟩
set_option maxRecDepth 20000 in
theorem kc_Wb_wind : kC M_Wb_wind 4 := ⟨z_mem 453 (by rfl) rfl, z_mem 101 (by decide +kernel) rfl, ⟨by decide, by decide⟩, by decide +kernel, by decide⟩
theorem k_Lw_31 : kV "WindBridesLaw" 31 11 M_Wb_wind 4 := ⟨kc_Wb_wind, _, _, _, rfl, z_mem 451 (by decide +kernel) rfl, z_mem 452 (by decide +kernel) rfl, z_mem 450 (by decide +kernel) rfl⟩
set_option maxRecDepth 20000 in
theorem kc_Mo_wind : kC M_Mo_wind 4 := ⟨z_mem 1358 (by rfl) rfl, z_mem 107 (by decide +kernel) rfl, ⟨by decide, by decide⟩, by decide +kernel, by decide⟩
theorem k_Lw_35 : kV "WindBridesLaw" 35 12 M_Mo_wind 4 := ⟨kc_Mo_wind, _, _, _, rfl, z_mem 1356 (by decide +kernel) rfl, z_mem 1357 (by decide +kernel) rfl, z_mem 1355 (by decide +kernel) rfl⟩
set_option maxRecDepth 20000 in
theorem kc_Wb_windOf : kC M_Wb_windOf 2 := ⟨z_mem 461 (by rfl) rfl, z_mem 101 (by decide +kernel) rfl, ⟨by decide, by decide⟩, by decide +kernel, by decide⟩
theorem k_Lw_36 : kV "WindBridesLaw" 36 11 M_Wb_windOf 2 := ⟨kc_Wb_windOf, _, _, _, rfl, z_mem 459 (by decide +kernel) rfl, z_mem 460 (by decide +kernel) rfl, z_mem 458 (by decide +kernel) rfl⟩
set_option maxRecDepth 20000 in
theorem kc_Mo_windOf : kC M_Mo_windOf 2 := ⟨z_mem 1362 (by rfl) rfl, z_mem 107 (by decide +kernel) rfl, ⟨by decide, by decide⟩, by decide +kernel, by decide⟩
theorem k_Lw_39 : kV "WindBridesLaw" 39 12 M_Mo_windOf 2 := ⟨kc_Mo_windOf, _, _, _, rfl, z_mem 1360 (by decide +kernel) rfl, z_mem 1361 (by decide +kernel) rfl, z_mem 1359 (by decide +kernel) rfl⟩
set_option maxRecDepth 20000 in
theorem kc_Wb_promise : kC M_Wb_promise 2 := ⟨z_mem 477 (by rfl) rfl, z_mem 101 (by decide +kernel) rfl, ⟨by decide, by decide⟩, by decide +kernel, by decide⟩
theorem k_Lw_40 : kV "WindBridesLaw" 40 11 M_Wb_promise 2 := ⟨kc_Wb_promise, _, _, _, rfl, z_mem 475 (by decide +kernel) rfl, z_mem 476 (by decide +kernel) rfl, z_mem 474 (by decide +kernel) rfl⟩
set_option maxRecDepth 20000 in
theorem kc_Mo_promise : kC M_Mo_promise 2 := ⟨z_mem 1382 (by rfl) rfl, z_mem 107 (by decide +kernel) rfl, ⟨by decide, by decide⟩, by decide +kernel, by decide⟩
theorem k_Lw_43 : kV "WindBridesLaw" 43 12 M_Mo_promise 2 := ⟨kc_Mo_promise, _, _, _, rfl, z_mem 1380 (by decide +kernel) rfl, z_mem 1381 (by decide +kernel) rfl, z_mem 1379 (by decide +kernel) rfl⟩
set_option maxRecDepth 20000 in
theorem kc_Wb_gain : kC M_Wb_gain 3 := ⟨z_mem 482 (by rfl) rfl, z_mem 101 (by decide +kernel) rfl, ⟨by decide, by decide⟩, by decide +kernel, by decide⟩
theorem k_Lw_44 : kV "WindBridesLaw" 44 11 M_Wb_gain 3 := ⟨kc_Wb_gain, _, _, _, rfl, z_mem 480 (by decide +kernel) rfl, z_mem 481 (by decide +kernel) rfl, z_mem 479 (by decide +kernel) rfl⟩
set_option maxRecDepth 20000 in
theorem kc_Mo_gain : kC M_Mo_gain 3 := ⟨z_mem 1390 (by rfl) rfl, z_mem 107 (by decide +kernel) rfl, ⟨by decide, by decide⟩, by decide +kernel, by decide⟩
theorem k_Lw_47 : kV "WindBridesLaw" 47 12 M_Mo_gain 3 := ⟨kc_Mo_gain, _, _, _, rfl, z_mem 1388 (by decide +kernel) rfl, z_mem 1389 (by decide +kernel) rfl, z_mem 1387 (by decide +kernel) rfl⟩
set_option maxRecDepth 20000 in
theorem kc_Wb_ends : kC M_Wb_ends 1 := ⟨z_mem 496 (by rfl) rfl, z_mem 101 (by decide +kernel) rfl, ⟨by decide, by decide⟩, by decide +kernel, by decide⟩
theorem k_Lw_48 : kV "WindBridesLaw" 48 11 M_Wb_ends 1 := ⟨kc_Wb_ends, _, _, _, rfl, z_mem 494 (by decide +kernel) rfl, z_mem 495 (by decide +kernel) rfl, z_mem 493 (by decide +kernel) rfl⟩
set_option maxRecDepth 20000 in
theorem kc_Mo_ends : kC M_Mo_ends 1 := ⟨z_mem 1408 (by rfl) rfl, z_mem 107 (by decide +kernel) rfl, ⟨by decide, by decide⟩, by decide +kernel, by decide⟩
theorem k_Lw_52 : kV "WindBridesLaw" 52 12 M_Mo_ends 1 := ⟨kc_Mo_ends, _, _, _, rfl, z_mem 1406 (by decide +kernel) rfl, z_mem 1407 (by decide +kernel) rfl, z_mem 1405 (by decide +kernel) rfl⟩
set_option maxRecDepth 20000 in
theorem kc_Wb_anew : kC M_Wb_anew 0 := ⟨z_mem 500 (by rfl) rfl, z_mem 101 (by decide +kernel) rfl, ⟨by decide, by decide⟩, by decide +kernel, by decide⟩
theorem k_Lw_53 : kV "WindBridesLaw" 53 11 M_Wb_anew 0 := ⟨kc_Wb_anew, _, _, _, rfl, z_mem 498 (by decide +kernel) rfl, z_mem 499 (by decide +kernel) rfl, z_mem 497 (by decide +kernel) rfl⟩
set_option maxRecDepth 20000 in
theorem kc_Mo_anew : kC M_Mo_anew 0 := ⟨z_mem 1412 (by rfl) rfl, z_mem 107 (by decide +kernel) rfl, ⟨by decide, by decide⟩, by decide +kernel, by decide⟩
theorem k_Lw_57 : kV "WindBridesLaw" 57 12 M_Mo_anew 0 := ⟨kc_Mo_anew, _, _, _, rfl, z_mem 1410 (by decide +kernel) rfl, z_mem 1411 (by decide +kernel) rfl, z_mem 1409 (by decide +kernel) rfl⟩
set_option maxRecDepth 20000 in
theorem kc_Wb_state : kC M_Wb_state 1 := ⟨z_mem 504 (by rfl) rfl, z_mem 101 (by decide +kernel) rfl, ⟨by decide, by decide⟩, by decide +kernel, by decide⟩
theorem k_Lw_58 : kV "WindBridesLaw" 58 11 M_Wb_state 1 := ⟨kc_Wb_state, _, _, _, rfl, z_mem 502 (by decide +kernel) rfl, z_mem 503 (by decide +kernel) rfl, z_mem 501 (by decide +kernel) rfl⟩
set_option maxRecDepth 20000 in
theorem kc_Mo_state : kC M_Mo_state 1 := ⟨z_mem 1416 (by rfl) rfl, z_mem 107 (by decide +kernel) rfl, ⟨by decide, by decide⟩, by decide +kernel, by decide⟩
theorem k_Lw_61 : kV "WindBridesLaw" 61 12 M_Mo_state 1 := ⟨kc_Mo_state, _, _, _, rfl, z_mem 1414 (by decide +kernel) rfl, z_mem 1415 (by decide +kernel) rfl, z_mem 1413 (by decide +kernel) rfl⟩
theorem l_Lw_62 : Cond.constantLong "WindBridesLaw" 62 4294967295 ∈ zT := z_mem 1808 (by decide +kernel) rfl
set_option maxRecDepth 20000 in
theorem kc_Wb_feed : kC M_Wb_feed 2 := ⟨z_mem 512 (by rfl) rfl, z_mem 101 (by decide +kernel) rfl, ⟨by decide, by decide⟩, by decide +kernel, by decide⟩
theorem k_Lw_64 : kV "WindBridesLaw" 64 11 M_Wb_feed 2 := ⟨kc_Wb_feed, _, _, _, rfl, z_mem 510 (by decide +kernel) rfl, z_mem 511 (by decide +kernel) rfl, z_mem 509 (by decide +kernel) rfl⟩
set_option maxRecDepth 20000 in
theorem kc_Mo_feed : kC M_Mo_feed 2 := ⟨z_mem 1424 (by rfl) rfl, z_mem 107 (by decide +kernel) rfl, ⟨by decide, by decide⟩, by decide +kernel, by decide⟩
theorem k_Lw_68 : kV "WindBridesLaw" 68 12 M_Mo_feed 2 := ⟨kc_Mo_feed, _, _, _, rfl, z_mem 1422 (by decide +kernel) rfl, z_mem 1423 (by decide +kernel) rfl, z_mem 1421 (by decide +kernel) rfl⟩
set_option maxRecDepth 20000 in
theorem kc_Wb_rules : kC M_Wb_rules 0 := ⟨z_mem 524 (by rfl) rfl, z_mem 101 (by decide +kernel) rfl, ⟨by decide, by decide⟩, by decide +kernel, by decide⟩
theorem k_Lw_69 : kV "WindBridesLaw" 69 11 M_Wb_rules 0 := ⟨kc_Wb_rules, _, _, _, rfl, z_mem 522 (by decide +kernel) rfl, z_mem 523 (by decide +kernel) rfl, z_mem 521 (by decide +kernel) rfl⟩
set_option maxRecDepth 20000 in
theorem kc_Mo_rules : kC M_Mo_rules 0 := ⟨z_mem 1429 (by rfl) rfl, z_mem 107 (by decide +kernel) rfl, ⟨by decide, by decide⟩, by decide +kernel, by decide⟩
theorem k_Lw_72 : kV "WindBridesLaw" 72 12 M_Mo_rules 0 := ⟨kc_Mo_rules, _, _, _, rfl, z_mem 1427 (by decide +kernel) rfl, z_mem 1428 (by decide +kernel) rfl, z_mem 1426 (by decide +kernel) rfl⟩
set_option maxRecDepth 20000 in
theorem kc_Wb_month : kC M_Wb_month 0 := ⟨z_mem 647 (by rfl) rfl, z_mem 101 (by decide +kernel) rfl, ⟨by decide, by decide⟩, by decide +kernel, by decide⟩
theorem k_Lw_73 : kV "WindBridesLaw" 73 11 M_Wb_month 0 := ⟨kc_Wb_month, _, _, _, rfl, z_mem 645 (by decide +kernel) rfl, z_mem 646 (by decide +kernel) rfl, z_mem 644 (by decide +kernel) rfl⟩
set_option maxRecDepth 20000 in
theorem kc_Mo_month : kC M_Mo_month 0 := ⟨z_mem 1493 (by rfl) rfl, z_mem 107 (by decide +kernel) rfl, ⟨by decide, by decide⟩, by decide +kernel, by decide⟩
theorem k_Lw_76 : kV "WindBridesLaw" 76 12 M_Mo_month 0 := ⟨kc_Mo_month, _, _, _, rfl, z_mem 1491 (by decide +kernel) rfl, z_mem 1492 (by decide +kernel) rfl, z_mem 1490 (by decide +kernel) rfl⟩
set_option maxRecDepth 20000 in
theorem kc_Wb_on : kC M_Wb_on 1 := ⟨z_mem 679 (by rfl) rfl, z_mem 101 (by decide +kernel) rfl, ⟨by decide, by decide⟩, by decide +kernel, by decide⟩
theorem k_Lw_77 : kV "WindBridesLaw" 77 11 M_Wb_on 1 := ⟨kc_Wb_on, _, _, _, rfl, z_mem 677 (by decide +kernel) rfl, z_mem 678 (by decide +kernel) rfl, z_mem 676 (by decide +kernel) rfl⟩
set_option maxRecDepth 20000 in
theorem kc_Mo_on : kC M_Mo_on 1 := ⟨z_mem 1513 (by rfl) rfl, z_mem 107 (by decide +kernel) rfl, ⟨by decide, by decide⟩, by decide +kernel, by decide⟩
theorem k_Lw_80 : kV "WindBridesLaw" 80 12 M_Mo_on 1 := ⟨kc_Mo_on, _, _, _, rfl, z_mem 1511 (by decide +kernel) rfl, z_mem 1512 (by decide +kernel) rfl, z_mem 1510 (by decide +kernel) rfl⟩
set_option maxRecDepth 20000 in
theorem kc_Wb_courted : kC M_Wb_courted 1 := ⟨z_mem 688 (by rfl) rfl, z_mem 101 (by decide +kernel) rfl, ⟨by decide, by decide⟩, by decide +kernel, by decide⟩
theorem k_Lw_81 : kV "WindBridesLaw" 81 11 M_Wb_courted 1 := ⟨kc_Wb_courted, _, _, _, rfl, z_mem 686 (by decide +kernel) rfl, z_mem 687 (by decide +kernel) rfl, z_mem 685 (by decide +kernel) rfl⟩
set_option maxRecDepth 20000 in
theorem kc_Mo_courted : kC M_Mo_courted 1 := ⟨z_mem 1521 (by rfl) rfl, z_mem 107 (by decide +kernel) rfl, ⟨by decide, by decide⟩, by decide +kernel, by decide⟩
theorem k_Lw_84 : kV "WindBridesLaw" 84 12 M_Mo_courted 1 := ⟨kc_Mo_courted, _, _, _, rfl, z_mem 1519 (by decide +kernel) rfl, z_mem 1520 (by decide +kernel) rfl, z_mem 1518 (by decide +kernel) rfl⟩
set_option maxRecDepth 20000 in
theorem kc_Wb_breaks : kC M_Wb_breaks 1 := ⟨z_mem 692 (by rfl) rfl, z_mem 101 (by decide +kernel) rfl, ⟨by decide, by decide⟩, by decide +kernel, by decide⟩
theorem k_Lw_85 : kV "WindBridesLaw" 85 11 M_Wb_breaks 1 := ⟨kc_Wb_breaks, _, _, _, rfl, z_mem 690 (by decide +kernel) rfl, z_mem 691 (by decide +kernel) rfl, z_mem 689 (by decide +kernel) rfl⟩
set_option maxRecDepth 20000 in
theorem kc_Mo_breaks : kC M_Mo_breaks 1 := ⟨z_mem 1525 (by rfl) rfl, z_mem 107 (by decide +kernel) rfl, ⟨by decide, by decide⟩, by decide +kernel, by decide⟩
theorem k_Lw_88 : kV "WindBridesLaw" 88 12 M_Mo_breaks 1 := ⟨kc_Mo_breaks, _, _, _, rfl, z_mem 1523 (by decide +kernel) rfl, z_mem 1524 (by decide +kernel) rfl, z_mem 1522 (by decide +kernel) rfl⟩
set_option maxRecDepth 20000 in
theorem kc_Wb_windFor : kC M_Wb_windFor 1 := ⟨z_mem 696 (by rfl) rfl, z_mem 101 (by decide +kernel) rfl, ⟨by decide, by decide⟩, by decide +kernel, by decide⟩
theorem k_Lw_89 : kV "WindBridesLaw" 89 11 M_Wb_windFor 1 := ⟨kc_Wb_windFor, _, _, _, rfl, z_mem 694 (by decide +kernel) rfl, z_mem 695 (by decide +kernel) rfl, z_mem 693 (by decide +kernel) rfl⟩
set_option maxRecDepth 20000 in
theorem kc_Mo_windFor : kC M_Mo_windFor 1 := ⟨z_mem 1529 (by rfl) rfl, z_mem 107 (by decide +kernel) rfl, ⟨by decide, by decide⟩, by decide +kernel, by decide⟩
theorem k_Lw_92 : kV "WindBridesLaw" 92 12 M_Mo_windFor 1 := ⟨kc_Mo_windFor, _, _, _, rfl, z_mem 1527 (by decide +kernel) rfl, z_mem 1528 (by decide +kernel) rfl, z_mem 1526 (by decide +kernel) rfl⟩
set_option maxRecDepth 20000 in
theorem kc_Wb_dowryFor : kC M_Wb_dowryFor 1 := ⟨z_mem 704 (by rfl) rfl, z_mem 101 (by decide +kernel) rfl, ⟨by decide, by decide⟩, by decide +kernel, by decide⟩
theorem k_Lw_93 : kV "WindBridesLaw" 93 11 M_Wb_dowryFor 1 := ⟨kc_Wb_dowryFor, _, _, _, rfl, z_mem 702 (by decide +kernel) rfl, z_mem 703 (by decide +kernel) rfl, z_mem 701 (by decide +kernel) rfl⟩
set_option maxRecDepth 20000 in
theorem kc_Mo_dowryFor : kC M_Mo_dowryFor 1 := ⟨z_mem 1533 (by rfl) rfl, z_mem 107 (by decide +kernel) rfl, ⟨by decide, by decide⟩, by decide +kernel, by decide⟩
theorem k_Lw_96 : kV "WindBridesLaw" 96 12 M_Mo_dowryFor 1 := ⟨kc_Mo_dowryFor, _, _, _, rfl, z_mem 1531 (by decide +kernel) rfl, z_mem 1532 (by decide +kernel) rfl, z_mem 1530 (by decide +kernel) rfl⟩
set_option maxRecDepth 20000 in
theorem kc_Wb_leave : kC M_Wb_leave 0 := ⟨z_mem 708 (by rfl) rfl, z_mem 101 (by decide +kernel) rfl, ⟨by decide, by decide⟩, by decide +kernel, by decide⟩
theorem k_Lw_97 : kV "WindBridesLaw" 97 11 M_Wb_leave 0 := ⟨kc_Wb_leave, _, _, _, rfl, z_mem 706 (by decide +kernel) rfl, z_mem 707 (by decide +kernel) rfl, z_mem 705 (by decide +kernel) rfl⟩
set_option maxRecDepth 20000 in
theorem kc_Mo_leave : kC M_Mo_leave 0 := ⟨z_mem 1537 (by rfl) rfl, z_mem 107 (by decide +kernel) rfl, ⟨by decide, by decide⟩, by decide +kernel, by decide⟩
theorem k_Lw_100 : kV "WindBridesLaw" 100 12 M_Mo_leave 0 := ⟨kc_Mo_leave, _, _, _, rfl, z_mem 1535 (by decide +kernel) rfl, z_mem 1536 (by decide +kernel) rfl, z_mem 1534 (by decide +kernel) rfl⟩
set_option maxRecDepth 20000 in
theorem kc_Wb_first : kC M_Wb_first 0 := ⟨z_mem 729 (by rfl) rfl, z_mem 101 (by decide +kernel) rfl, ⟨by decide, by decide⟩, by decide +kernel, by decide⟩
theorem k_Lw_101 : kV "WindBridesLaw" 101 11 M_Wb_first 0 := ⟨kc_Wb_first, _, _, _, rfl, z_mem 727 (by decide +kernel) rfl, z_mem 728 (by decide +kernel) rfl, z_mem 726 (by decide +kernel) rfl⟩
set_option maxRecDepth 20000 in
theorem kc_Mo_first : kC M_Mo_first 0 := ⟨z_mem 1557 (by rfl) rfl, z_mem 107 (by decide +kernel) rfl, ⟨by decide, by decide⟩, by decide +kernel, by decide⟩
theorem k_Lw_104 : kV "WindBridesLaw" 104 12 M_Mo_first 0 := ⟨kc_Mo_first, _, _, _, rfl, z_mem 1555 (by decide +kernel) rfl, z_mem 1556 (by decide +kernel) rfl, z_mem 1554 (by decide +kernel) rfl⟩
set_option maxRecDepth 20000 in
theorem kc_Wb_kept : kC M_Wb_kept 1 := ⟨z_mem 733 (by rfl) rfl, z_mem 101 (by decide +kernel) rfl, ⟨by decide, by decide⟩, by decide +kernel, by decide⟩
theorem k_Lw_105 : kV "WindBridesLaw" 105 11 M_Wb_kept 1 := ⟨kc_Wb_kept, _, _, _, rfl, z_mem 731 (by decide +kernel) rfl, z_mem 732 (by decide +kernel) rfl, z_mem 730 (by decide +kernel) rfl⟩
set_option maxRecDepth 20000 in
theorem kc_Mo_kept : kC M_Mo_kept 1 := ⟨z_mem 1561 (by rfl) rfl, z_mem 107 (by decide +kernel) rfl, ⟨by decide, by decide⟩, by decide +kernel, by decide⟩
theorem k_Lw_108 : kV "WindBridesLaw" 108 12 M_Mo_kept 1 := ⟨kc_Mo_kept, _, _, _, rfl, z_mem 1559 (by decide +kernel) rfl, z_mem 1560 (by decide +kernel) rfl, z_mem 1558 (by decide +kernel) rfl⟩
set_option maxRecDepth 20000 in
theorem kc_Wb_ring : kC M_Wb_ring 1 := ⟨z_mem 749 (by rfl) rfl, z_mem 101 (by decide +kernel) rfl, ⟨by decide, by decide⟩, by decide +kernel, by decide⟩
theorem k_Lw_109 : kV "WindBridesLaw" 109 11 M_Wb_ring 1 := ⟨kc_Wb_ring, _, _, _, rfl, z_mem 747 (by decide +kernel) rfl, z_mem 748 (by decide +kernel) rfl, z_mem 746 (by decide +kernel) rfl⟩
set_option maxRecDepth 20000 in
theorem kc_Mo_ring : kC M_Mo_ring 1 := ⟨z_mem 1573 (by rfl) rfl, z_mem 107 (by decide +kernel) rfl, ⟨by decide, by decide⟩, by decide +kernel, by decide⟩
theorem k_Lw_112 : kV "WindBridesLaw" 112 12 M_Mo_ring 1 := ⟨kc_Mo_ring, _, _, _, rfl, z_mem 1571 (by decide +kernel) rfl, z_mem 1572 (by decide +kernel) rfl, z_mem 1570 (by decide +kernel) rfl⟩
set_option maxRecDepth 20000 in
theorem kc_Wb_best : kC M_Wb_best 1 := ⟨z_mem 761 (by rfl) rfl, z_mem 101 (by decide +kernel) rfl, ⟨by decide, by decide⟩, by decide +kernel, by decide⟩
theorem k_Lw_113 : kV "WindBridesLaw" 113 11 M_Wb_best 1 := ⟨kc_Wb_best, _, _, _, rfl, z_mem 759 (by decide +kernel) rfl, z_mem 760 (by decide +kernel) rfl, z_mem 758 (by decide +kernel) rfl⟩
set_option maxRecDepth 20000 in
theorem kc_Mo_best : kC M_Mo_best 1 := ⟨z_mem 1581 (by rfl) rfl, z_mem 107 (by decide +kernel) rfl, ⟨by decide, by decide⟩, by decide +kernel, by decide⟩
theorem k_Lw_116 : kV "WindBridesLaw" 116 12 M_Mo_best 1 := ⟨kc_Mo_best, _, _, _, rfl, z_mem 1579 (by decide +kernel) rfl, z_mem 1580 (by decide +kernel) rfl, z_mem 1578 (by decide +kernel) rfl⟩
set_option maxRecDepth 20000 in
theorem kc_Wb_ith : kC M_Wb_ith 2 := ⟨z_mem 791 (by rfl) rfl, z_mem 101 (by decide +kernel) rfl, ⟨by decide, by decide⟩, by decide +kernel, by decide⟩
theorem k_Lw_117 : kV "WindBridesLaw" 117 11 M_Wb_ith 2 := ⟨kc_Wb_ith, _, _, _, rfl, z_mem 789 (by decide +kernel) rfl, z_mem 790 (by decide +kernel) rfl, z_mem 788 (by decide +kernel) rfl⟩
set_option maxRecDepth 20000 in
theorem kc_Mo_ith : kC M_Mo_ith 2 := ⟨z_mem 1608 (by rfl) rfl, z_mem 107 (by decide +kernel) rfl, ⟨by decide, by decide⟩, by decide +kernel, by decide⟩
theorem k_Lw_120 : kV "WindBridesLaw" 120 12 M_Mo_ith 2 := ⟨kc_Mo_ith, _, _, _, rfl, z_mem 1606 (by decide +kernel) rfl, z_mem 1607 (by decide +kernel) rfl, z_mem 1605 (by decide +kernel) rfl⟩
set_option maxRecDepth 20000 in
theorem kc_Wb_ways : kC M_Wb_ways 1 := ⟨z_mem 795 (by rfl) rfl, z_mem 101 (by decide +kernel) rfl, ⟨by decide, by decide⟩, by decide +kernel, by decide⟩
theorem k_Lw_121 : kV "WindBridesLaw" 121 11 M_Wb_ways 1 := ⟨kc_Wb_ways, _, _, _, rfl, z_mem 793 (by decide +kernel) rfl, z_mem 794 (by decide +kernel) rfl, z_mem 792 (by decide +kernel) rfl⟩
set_option maxRecDepth 20000 in
theorem kc_Mo_ways : kC M_Mo_ways 1 := ⟨z_mem 1612 (by rfl) rfl, z_mem 107 (by decide +kernel) rfl, ⟨by decide, by decide⟩, by decide +kernel, by decide⟩
theorem k_Lw_124 : kV "WindBridesLaw" 124 12 M_Mo_ways 1 := ⟨kc_Mo_ways, _, _, _, rfl, z_mem 1610 (by decide +kernel) rfl, z_mem 1611 (by decide +kernel) rfl, z_mem 1609 (by decide +kernel) rfl⟩
set_option maxRecDepth 20000 in
theorem kc_Wb_bound : kC M_Wb_bound 2 := ⟨z_mem 799 (by rfl) rfl, z_mem 101 (by decide +kernel) rfl, ⟨by decide, by decide⟩, by decide +kernel, by decide⟩
theorem k_Lw_125 : kV "WindBridesLaw" 125 11 M_Wb_bound 2 := ⟨kc_Wb_bound, _, _, _, rfl, z_mem 797 (by decide +kernel) rfl, z_mem 798 (by decide +kernel) rfl, z_mem 796 (by decide +kernel) rfl⟩
set_option maxRecDepth 20000 in
theorem kc_Mo_bound : kC M_Mo_bound 2 := ⟨z_mem 1616 (by rfl) rfl, z_mem 107 (by decide +kernel) rfl, ⟨by decide, by decide⟩, by decide +kernel, by decide⟩
theorem k_Lw_128 : kV "WindBridesLaw" 128 12 M_Mo_bound 2 := ⟨kc_Mo_bound, _, _, _, rfl, z_mem 1614 (by decide +kernel) rfl, z_mem 1615 (by decide +kernel) rfl, z_mem 1613 (by decide +kernel) rfl⟩
set_option maxRecDepth 20000 in
theorem kc_Wb_bars : kC M_Wb_bars 2 := ⟨z_mem 807 (by rfl) rfl, z_mem 101 (by decide +kernel) rfl, ⟨by decide, by decide⟩, by decide +kernel, by decide⟩
theorem k_Lw_129 : kV "WindBridesLaw" 129 11 M_Wb_bars 2 := ⟨kc_Wb_bars, _, _, _, rfl, z_mem 805 (by decide +kernel) rfl, z_mem 806 (by decide +kernel) rfl, z_mem 804 (by decide +kernel) rfl⟩
set_option maxRecDepth 20000 in
theorem kc_Mo_bars : kC M_Mo_bars 2 := ⟨z_mem 1628 (by rfl) rfl, z_mem 107 (by decide +kernel) rfl, ⟨by decide, by decide⟩, by decide +kernel, by decide⟩
theorem k_Lw_132 : kV "WindBridesLaw" 132 12 M_Mo_bars 2 := ⟨kc_Mo_bars, _, _, _, rfl, z_mem 1626 (by decide +kernel) rfl, z_mem 1627 (by decide +kernel) rfl, z_mem 1625 (by decide +kernel) rfl⟩
set_option maxRecDepth 20000 in
theorem kc_Wb_game : kC M_Wb_game 1 := ⟨z_mem 815 (by rfl) rfl, z_mem 101 (by decide +kernel) rfl, ⟨by decide, by decide⟩, by decide +kernel, by decide⟩
theorem k_Lw_133 : kV "WindBridesLaw" 133 11 M_Wb_game 1 := ⟨kc_Wb_game, _, _, _, rfl, z_mem 813 (by decide +kernel) rfl, z_mem 814 (by decide +kernel) rfl, z_mem 812 (by decide +kernel) rfl⟩
set_option maxRecDepth 20000 in
theorem kc_Mo_game : kC M_Mo_game 1 := ⟨z_mem 1632 (by rfl) rfl, z_mem 107 (by decide +kernel) rfl, ⟨by decide, by decide⟩, by decide +kernel, by decide⟩
theorem k_Lw_136 : kV "WindBridesLaw" 136 12 M_Mo_game 1 := ⟨kc_Mo_game, _, _, _, rfl, z_mem 1630 (by decide +kernel) rfl, z_mem 1631 (by decide +kernel) rfl, z_mem 1629 (by decide +kernel) rfl⟩
set_option maxRecDepth 20000 in
theorem kc_Wb_play : kC M_Wb_play 1 := ⟨z_mem 827 (by rfl) rfl, z_mem 101 (by decide +kernel) rfl, ⟨by decide, by decide⟩, by decide +kernel, by decide⟩
theorem k_Lw_137 : kV "WindBridesLaw" 137 11 M_Wb_play 1 := ⟨kc_Wb_play, _, _, _, rfl, z_mem 825 (by decide +kernel) rfl, z_mem 826 (by decide +kernel) rfl, z_mem 824 (by decide +kernel) rfl⟩
set_option maxRecDepth 20000 in
theorem kc_Mo_play : kC M_Mo_play 1 := ⟨z_mem 1640 (by rfl) rfl, z_mem 107 (by decide +kernel) rfl, ⟨by decide, by decide⟩, by decide +kernel, by decide⟩
theorem k_Lw_140 : kV "WindBridesLaw" 140 12 M_Mo_play 1 := ⟨kc_Mo_play, _, _, _, rfl, z_mem 1638 (by decide +kernel) rfl, z_mem 1639 (by decide +kernel) rfl, z_mem 1637 (by decide +kernel) rfl⟩
set_option maxRecDepth 20000 in
theorem kc_Wb_report : kC M_Wb_report 4 := ⟨z_mem 831 (by rfl) rfl, z_mem 101 (by decide +kernel) rfl, ⟨by decide, by decide⟩, by decide +kernel, by decide⟩
theorem k_Lw_141 : kV "WindBridesLaw" 141 11 M_Wb_report 4 := ⟨kc_Wb_report, _, _, _, rfl, z_mem 829 (by decide +kernel) rfl, z_mem 830 (by decide +kernel) rfl, z_mem 828 (by decide +kernel) rfl⟩
set_option maxRecDepth 20000 in
theorem kc_Mo_report : kC M_Mo_report 4 := ⟨z_mem 1644 (by rfl) rfl, z_mem 107 (by decide +kernel) rfl, ⟨by decide, by decide⟩, by decide +kernel, by decide⟩
theorem k_Lw_144 : kV "WindBridesLaw" 144 12 M_Mo_report 4 := ⟨kc_Mo_report, _, _, _, rfl, z_mem 1642 (by decide +kernel) rfl, z_mem 1643 (by decide +kernel) rfl, z_mem 1641 (by decide +kernel) rfl⟩
set_option maxRecDepth 20000 in
theorem kc_Wb_forget : kC M_Wb_forget 0 := ⟨z_mem 839 (by rfl) rfl, z_mem 101 (by decide +kernel) rfl, ⟨by decide, by decide⟩, by decide +kernel, by decide⟩
theorem k_Lw_145 : kV "WindBridesLaw" 145 11 M_Wb_forget 0 := ⟨kc_Wb_forget, _, _, _, rfl, z_mem 837 (by decide +kernel) rfl, z_mem 838 (by decide +kernel) rfl, z_mem 836 (by decide +kernel) rfl⟩
set_option maxRecDepth 20000 in
theorem kc_Mo_forget : kC M_Mo_forget 0 := ⟨z_mem 1648 (by rfl) rfl, z_mem 107 (by decide +kernel) rfl, ⟨by decide, by decide⟩, by decide +kernel, by decide⟩
theorem k_Lw_148 : kV "WindBridesLaw" 148 12 M_Mo_forget 0 := ⟨kc_Mo_forget, _, _, _, rfl, z_mem 1646 (by decide +kernel) rfl, z_mem 1647 (by decide +kernel) rfl, z_mem 1645 (by decide +kernel) rfl⟩
set_option maxRecDepth 20000 in
theorem kc_Wb_span : kC M_Wb_span 1 := ⟨z_mem 843 (by rfl) rfl, z_mem 101 (by decide +kernel) rfl, ⟨by decide, by decide⟩, by decide +kernel, by decide⟩
theorem k_Lw_149 : kV "WindBridesLaw" 149 11 M_Wb_span 1 := ⟨kc_Wb_span, _, _, _, rfl, z_mem 841 (by decide +kernel) rfl, z_mem 842 (by decide +kernel) rfl, z_mem 840 (by decide +kernel) rfl⟩
set_option maxRecDepth 20000 in
theorem kc_Mo_span : kC M_Mo_span 1 := ⟨z_mem 1652 (by rfl) rfl, z_mem 107 (by decide +kernel) rfl, ⟨by decide, by decide⟩, by decide +kernel, by decide⟩
theorem k_Lw_152 : kV "WindBridesLaw" 152 12 M_Mo_span 1 := ⟨kc_Mo_span, _, _, _, rfl, z_mem 1650 (by decide +kernel) rfl, z_mem 1651 (by decide +kernel) rfl, z_mem 1649 (by decide +kernel) rfl⟩
set_option maxRecDepth 20000 in
theorem kc_Wb_liar : kC M_Wb_liar 0 := ⟨z_mem 856 (by rfl) rfl, z_mem 101 (by decide +kernel) rfl, ⟨by decide, by decide⟩, by decide +kernel, by decide⟩
theorem k_Lw_153 : kV "WindBridesLaw" 153 11 M_Wb_liar 0 := ⟨kc_Wb_liar, _, _, _, rfl, z_mem 854 (by decide +kernel) rfl, z_mem 855 (by decide +kernel) rfl, z_mem 853 (by decide +kernel) rfl⟩
set_option maxRecDepth 20000 in
theorem kc_Mo_liar : kC M_Mo_liar 0 := ⟨z_mem 1664 (by rfl) rfl, z_mem 107 (by decide +kernel) rfl, ⟨by decide, by decide⟩, by decide +kernel, by decide⟩
theorem k_Lw_156 : kV "WindBridesLaw" 156 12 M_Mo_liar 0 := ⟨kc_Mo_liar, _, _, _, rfl, z_mem 1662 (by decide +kernel) rfl, z_mem 1663 (by decide +kernel) rfl, z_mem 1661 (by decide +kernel) rfl⟩
set_option maxRecDepth 20000 in
theorem kc_Wb_seed : kC M_Wb_seed 1 := ⟨z_mem 860 (by rfl) rfl, z_mem 101 (by decide +kernel) rfl, ⟨by decide, by decide⟩, by decide +kernel, by decide⟩
theorem k_Lw_157 : kV "WindBridesLaw" 157 11 M_Wb_seed 1 := ⟨kc_Wb_seed, _, _, _, rfl, z_mem 858 (by decide +kernel) rfl, z_mem 859 (by decide +kernel) rfl, z_mem 857 (by decide +kernel) rfl⟩
set_option maxRecDepth 20000 in
theorem kc_Mo_seed : kC M_Mo_seed 1 := ⟨z_mem 1668 (by rfl) rfl, z_mem 107 (by decide +kernel) rfl, ⟨by decide, by decide⟩, by decide +kernel, by decide⟩
theorem k_Lw_160 : kV "WindBridesLaw" 160 12 M_Mo_seed 1 := ⟨kc_Mo_seed, _, _, _, rfl, z_mem 1666 (by decide +kernel) rfl, z_mem 1667 (by decide +kernel) rfl, z_mem 1665 (by decide +kernel) rfl⟩
set_option maxRecDepth 20000 in
theorem kc_Wb_lot : kC M_Wb_lot 0 := ⟨z_mem 864 (by rfl) rfl, z_mem 101 (by decide +kernel) rfl, ⟨by decide, by decide⟩, by decide +kernel, by decide⟩
theorem k_Lw_161 : kV "WindBridesLaw" 161 11 M_Wb_lot 0 := ⟨kc_Wb_lot, _, _, _, rfl, z_mem 862 (by decide +kernel) rfl, z_mem 863 (by decide +kernel) rfl, z_mem 861 (by decide +kernel) rfl⟩
set_option maxRecDepth 20000 in
theorem kc_Mo_lot : kC M_Mo_lot 0 := ⟨z_mem 1672 (by rfl) rfl, z_mem 107 (by decide +kernel) rfl, ⟨by decide, by decide⟩, by decide +kernel, by decide⟩
theorem k_Lw_164 : kV "WindBridesLaw" 164 12 M_Mo_lot 0 := ⟨kc_Mo_lot, _, _, _, rfl, z_mem 1670 (by decide +kernel) rfl, z_mem 1671 (by decide +kernel) rfl, z_mem 1669 (by decide +kernel) rfl⟩
set_option maxRecDepth 20000 in
theorem kc_Wb_often : kC M_Wb_often 2 := ⟨z_mem 873 (by rfl) rfl, z_mem 101 (by decide +kernel) rfl, ⟨by decide, by decide⟩, by decide +kernel, by decide⟩
theorem k_Lw_165 : kV "WindBridesLaw" 165 11 M_Wb_often 2 := ⟨kc_Wb_often, _, _, _, rfl, z_mem 871 (by decide +kernel) rfl, z_mem 872 (by decide +kernel) rfl, z_mem 870 (by decide +kernel) rfl⟩
set_option maxRecDepth 20000 in
theorem kc_Mo_often : kC M_Mo_often 2 := ⟨z_mem 1681 (by rfl) rfl, z_mem 107 (by decide +kernel) rfl, ⟨by decide, by decide⟩, by decide +kernel, by decide⟩
theorem k_Lw_168 : kV "WindBridesLaw" 168 12 M_Mo_often 2 := ⟨kc_Mo_often, _, _, _, rfl, z_mem 1679 (by decide +kernel) rfl, z_mem 1680 (by decide +kernel) rfl, z_mem 1678 (by decide +kernel) rfl⟩
set_option maxRecDepth 20000 in
theorem kc_Wb_prove : kC M_Wb_prove 1 := ⟨z_mem 877 (by rfl) rfl, z_mem 101 (by decide +kernel) rfl, ⟨by decide, by decide⟩, by decide +kernel, by decide⟩
theorem k_Lw_169 : kV "WindBridesLaw" 169 11 M_Wb_prove 1 := ⟨kc_Wb_prove, _, _, _, rfl, z_mem 875 (by decide +kernel) rfl, z_mem 876 (by decide +kernel) rfl, z_mem 874 (by decide +kernel) rfl⟩
set_option maxRecDepth 20000 in
theorem kc_Mo_prove : kC M_Mo_prove 1 := ⟨z_mem 1685 (by rfl) rfl, z_mem 107 (by decide +kernel) rfl, ⟨by decide, by decide⟩, by decide +kernel, by decide⟩
theorem k_Lw_172 : kV "WindBridesLaw" 172 12 M_Mo_prove 1 := ⟨kc_Mo_prove, _, _, _, rfl, z_mem 1683 (by decide +kernel) rfl, z_mem 1684 (by decide +kernel) rfl, z_mem 1682 (by decide +kernel) rfl⟩
set_option maxRecDepth 20000 in
theorem kc_Wb_row : kC M_Wb_row 2 := ⟨z_mem 885 (by rfl) rfl, z_mem 101 (by decide +kernel) rfl, ⟨by decide, by decide⟩, by decide +kernel, by decide⟩
theorem k_Lw_173 : kV "WindBridesLaw" 173 11 M_Wb_row 2 := ⟨kc_Wb_row, _, _, _, rfl, z_mem 883 (by decide +kernel) rfl, z_mem 884 (by decide +kernel) rfl, z_mem 882 (by decide +kernel) rfl⟩
set_option maxRecDepth 20000 in
theorem kc_Mo_row : kC M_Mo_row 2 := ⟨z_mem 1689 (by rfl) rfl, z_mem 107 (by decide +kernel) rfl, ⟨by decide, by decide⟩, by decide +kernel, by decide⟩
theorem k_Lw_176 : kV "WindBridesLaw" 176 12 M_Mo_row 2 := ⟨kc_Mo_row, _, _, _, rfl, z_mem 1687 (by decide +kernel) rfl, z_mem 1688 (by decide +kernel) rfl, z_mem 1686 (by decide +kernel) rfl⟩
set_option maxRecDepth 20000 in
theorem kc_Wb_alterRow : kC M_Wb_alterRow 3 := ⟨z_mem 894 (by rfl) rfl, z_mem 101 (by decide +kernel) rfl, ⟨by decide, by decide⟩, by decide +kernel, by decide⟩
theorem k_Lw_177 : kV "WindBridesLaw" 177 11 M_Wb_alterRow 3 := ⟨kc_Wb_alterRow, _, _, _, rfl, z_mem 892 (by decide +kernel) rfl, z_mem 893 (by decide +kernel) rfl, z_mem 891 (by decide +kernel) rfl⟩
set_option maxRecDepth 20000 in
theorem kc_Mo_alterRow : kC M_Mo_alterRow 3 := ⟨z_mem 1697 (by rfl) rfl, z_mem 107 (by decide +kernel) rfl, ⟨by decide, by decide⟩, by decide +kernel, by decide⟩
theorem k_Lw_180 : kV "WindBridesLaw" 180 12 M_Mo_alterRow 3 := ⟨kc_Mo_alterRow, _, _, _, rfl, z_mem 1695 (by decide +kernel) rfl, z_mem 1696 (by decide +kernel) rfl, z_mem 1694 (by decide +kernel) rfl⟩
set_option maxRecDepth 20000 in
theorem kc_Wb_judge : kC M_Wb_judge 0 := ⟨z_mem 898 (by rfl) rfl, z_mem 101 (by decide +kernel) rfl, ⟨by decide, by decide⟩, by decide +kernel, by decide⟩
theorem k_Lw_181 : kV "WindBridesLaw" 181 11 M_Wb_judge 0 := ⟨kc_Wb_judge, _, _, _, rfl, z_mem 896 (by decide +kernel) rfl, z_mem 897 (by decide +kernel) rfl, z_mem 895 (by decide +kernel) rfl⟩
set_option maxRecDepth 20000 in
theorem kc_Mo_judge : kC M_Mo_judge 0 := ⟨z_mem 1701 (by rfl) rfl, z_mem 107 (by decide +kernel) rfl, ⟨by decide, by decide⟩, by decide +kernel, by decide⟩
theorem k_Lw_184 : kV "WindBridesLaw" 184 12 M_Mo_judge 0 := ⟨kc_Mo_judge, _, _, _, rfl, z_mem 1699 (by decide +kernel) rfl, z_mem 1700 (by decide +kernel) rfl, z_mem 1698 (by decide +kernel) rfl⟩
set_option maxRecDepth 20000 in
theorem kc_Wb_sheet : kC M_Wb_sheet 3 := ⟨z_mem 910 (by rfl) rfl, z_mem 101 (by decide +kernel) rfl, ⟨by decide, by decide⟩, by decide +kernel, by decide⟩
theorem k_Lw_185 : kV "WindBridesLaw" 185 11 M_Wb_sheet 3 := ⟨kc_Wb_sheet, _, _, _, rfl, z_mem 908 (by decide +kernel) rfl, z_mem 909 (by decide +kernel) rfl, z_mem 907 (by decide +kernel) rfl⟩
set_option maxRecDepth 20000 in
theorem kc_Mo_sheet : kC M_Mo_sheet 3 := ⟨z_mem 1705 (by rfl) rfl, z_mem 107 (by decide +kernel) rfl, ⟨by decide, by decide⟩, by decide +kernel, by decide⟩
theorem k_Lw_188 : kV "WindBridesLaw" 188 12 M_Mo_sheet 3 := ⟨kc_Mo_sheet, _, _, _, rfl, z_mem 1703 (by decide +kernel) rfl, z_mem 1704 (by decide +kernel) rfl, z_mem 1702 (by decide +kernel) rfl⟩
set_option maxRecDepth 20000 in
theorem kc_Wb_write : kC M_Wb_write 3 := ⟨z_mem 917 (by rfl) rfl, z_mem 101 (by decide +kernel) rfl, ⟨by decide, by decide⟩, by decide +kernel, by decide⟩
theorem k_Lw_189 : kV "WindBridesLaw" 189 11 M_Wb_write 3 := ⟨kc_Wb_write, _, _, _, rfl, z_mem 915 (by decide +kernel) rfl, z_mem 916 (by decide +kernel) rfl, z_mem 914 (by decide +kernel) rfl⟩
set_option maxRecDepth 20000 in
theorem kc_Mo_write : kC M_Mo_write 3 := ⟨z_mem 1712 (by rfl) rfl, z_mem 107 (by decide +kernel) rfl, ⟨by decide, by decide⟩, by decide +kernel, by decide⟩
theorem k_Lw_192 : kV "WindBridesLaw" 192 12 M_Mo_write 3 := ⟨kc_Mo_write, _, _, _, rfl, z_mem 1710 (by decide +kernel) rfl, z_mem 1711 (by decide +kernel) rfl, z_mem 1709 (by decide +kernel) rfl⟩
set_option maxRecDepth 20000 in
theorem kc_Wb_item : kC M_Wb_item 3 := ⟨z_mem 928 (by rfl) rfl, z_mem 101 (by decide +kernel) rfl, ⟨by decide, by decide⟩, by decide +kernel, by decide⟩
theorem k_Lw_193 : kV "WindBridesLaw" 193 11 M_Wb_item 3 := ⟨kc_Wb_item, _, _, _, rfl, z_mem 926 (by decide +kernel) rfl, z_mem 927 (by decide +kernel) rfl, z_mem 925 (by decide +kernel) rfl⟩
set_option maxRecDepth 20000 in
theorem kc_Mo_item : kC M_Mo_item 3 := ⟨z_mem 1716 (by rfl) rfl, z_mem 107 (by decide +kernel) rfl, ⟨by decide, by decide⟩, by decide +kernel, by decide⟩
theorem k_Lw_196 : kV "WindBridesLaw" 196 12 M_Mo_item 3 := ⟨kc_Mo_item, _, _, _, rfl, z_mem 1714 (by decide +kernel) rfl, z_mem 1715 (by decide +kernel) rfl, z_mem 1713 (by decide +kernel) rfl⟩
set_option maxRecDepth 20000 in
theorem kc_Wb_goAll : kC M_Wb_goAll 3 := ⟨z_mem 936 (by rfl) rfl, z_mem 101 (by decide +kernel) rfl, ⟨by decide, by decide⟩, by decide +kernel, by decide⟩
theorem k_Lw_197 : kV "WindBridesLaw" 197 11 M_Wb_goAll 3 := ⟨kc_Wb_goAll, _, _, _, rfl, z_mem 934 (by decide +kernel) rfl, z_mem 935 (by decide +kernel) rfl, z_mem 933 (by decide +kernel) rfl⟩
set_option maxRecDepth 20000 in
theorem kc_Mo_goAll : kC M_Mo_goAll 3 := ⟨z_mem 1720 (by rfl) rfl, z_mem 107 (by decide +kernel) rfl, ⟨by decide, by decide⟩, by decide +kernel, by decide⟩
theorem k_Lw_200 : kV "WindBridesLaw" 200 12 M_Mo_goAll 3 := ⟨kc_Mo_goAll, _, _, _, rfl, z_mem 1718 (by decide +kernel) rfl, z_mem 1719 (by decide +kernel) rfl, z_mem 1717 (by decide +kernel) rfl⟩
set_option maxRecDepth 20000 in
theorem kc_Wb_wouldBe : kC M_Wb_wouldBe 3 := ⟨z_mem 941 (by rfl) rfl, z_mem 101 (by decide +kernel) rfl, ⟨by decide, by decide⟩, by decide +kernel, by decide⟩
theorem k_Lw_201 : kV "WindBridesLaw" 201 11 M_Wb_wouldBe 3 := ⟨kc_Wb_wouldBe, _, _, _, rfl, z_mem 939 (by decide +kernel) rfl, z_mem 940 (by decide +kernel) rfl, z_mem 938 (by decide +kernel) rfl⟩
set_option maxRecDepth 20000 in
theorem kc_Mo_wouldBe : kC M_Mo_wouldBe 3 := ⟨z_mem 1732 (by rfl) rfl, z_mem 107 (by decide +kernel) rfl, ⟨by decide, by decide⟩, by decide +kernel, by decide⟩
theorem k_Lw_204 : kV "WindBridesLaw" 204 12 M_Mo_wouldBe 3 := ⟨kc_Mo_wouldBe, _, _, _, rfl, z_mem 1730 (by decide +kernel) rfl, z_mem 1731 (by decide +kernel) rfl, z_mem 1729 (by decide +kernel) rfl⟩
set_option maxRecDepth 20000 in
theorem kc_Wb_shelf : kC M_Wb_shelf 3 := ⟨z_mem 945 (by rfl) rfl, z_mem 101 (by decide +kernel) rfl, ⟨by decide, by decide⟩, by decide +kernel, by decide⟩
theorem k_Lw_205 : kV "WindBridesLaw" 205 11 M_Wb_shelf 3 := ⟨kc_Wb_shelf, _, _, _, rfl, z_mem 943 (by decide +kernel) rfl, z_mem 944 (by decide +kernel) rfl, z_mem 942 (by decide +kernel) rfl⟩
set_option maxRecDepth 20000 in
theorem kc_Mo_shelf : kC M_Mo_shelf 3 := ⟨z_mem 1736 (by rfl) rfl, z_mem 107 (by decide +kernel) rfl, ⟨by decide, by decide⟩, by decide +kernel, by decide⟩
theorem k_Lw_208 : kV "WindBridesLaw" 208 12 M_Mo_shelf 3 := ⟨kc_Mo_shelf, _, _, _, rfl, z_mem 1734 (by decide +kernel) rfl, z_mem 1735 (by decide +kernel) rfl, z_mem 1733 (by decide +kernel) rfl⟩
set_option maxRecDepth 20000 in
theorem kc_Wb_taken : kC M_Wb_taken 2 := ⟨z_mem 956 (by rfl) rfl, z_mem 101 (by decide +kernel) rfl, ⟨by decide, by decide⟩, by decide +kernel, by decide⟩
theorem k_Lw_209 : kV "WindBridesLaw" 209 11 M_Wb_taken 2 := ⟨kc_Wb_taken, _, _, _, rfl, z_mem 954 (by decide +kernel) rfl, z_mem 955 (by decide +kernel) rfl, z_mem 953 (by decide +kernel) rfl⟩
set_option maxRecDepth 20000 in
theorem kc_Mo_taken : kC M_Mo_taken 2 := ⟨z_mem 1740 (by rfl) rfl, z_mem 107 (by decide +kernel) rfl, ⟨by decide, by decide⟩, by decide +kernel, by decide⟩
theorem k_Lw_212 : kV "WindBridesLaw" 212 12 M_Mo_taken 2 := ⟨kc_Mo_taken, _, _, _, rfl, z_mem 1738 (by decide +kernel) rfl, z_mem 1739 (by decide +kernel) rfl, z_mem 1737 (by decide +kernel) rfl⟩
set_option maxRecDepth 20000 in
theorem kc_Wb_act : kC M_Wb_act 3 := ⟨z_mem 965 (by rfl) rfl, z_mem 101 (by decide +kernel) rfl, ⟨by decide, by decide⟩, by decide +kernel, by decide⟩
theorem k_Lw_213 : kV "WindBridesLaw" 213 11 M_Wb_act 3 := ⟨kc_Wb_act, _, _, _, rfl, z_mem 963 (by decide +kernel) rfl, z_mem 964 (by decide +kernel) rfl, z_mem 962 (by decide +kernel) rfl⟩
set_option maxRecDepth 20000 in
theorem kc_Mo_act : kC M_Mo_act 3 := ⟨z_mem 1748 (by rfl) rfl, z_mem 107 (by decide +kernel) rfl, ⟨by decide, by decide⟩, by decide +kernel, by decide⟩
theorem k_Lw_216 : kV "WindBridesLaw" 216 12 M_Mo_act 3 := ⟨kc_Mo_act, _, _, _, rfl, z_mem 1746 (by decide +kernel) rfl, z_mem 1747 (by decide +kernel) rfl, z_mem 1745 (by decide +kernel) rfl⟩
set_option maxRecDepth 20000 in
theorem kc_Wb_trace : kC M_Wb_trace 1 := ⟨z_mem 1161 (by rfl) rfl, z_mem 101 (by decide +kernel) rfl, ⟨by decide, by decide⟩, by decide +kernel, by decide⟩
theorem k_Lw_217 : kV "WindBridesLaw" 217 11 M_Wb_trace 1 := ⟨kc_Wb_trace, _, _, _, rfl, z_mem 1159 (by decide +kernel) rfl, z_mem 1160 (by decide +kernel) rfl, z_mem 1158 (by decide +kernel) rfl⟩
set_option maxRecDepth 20000 in
theorem kc_Mo_trace : kC M_Mo_trace 1 := ⟨z_mem 1792 (by rfl) rfl, z_mem 107 (by decide +kernel) rfl, ⟨by decide, by decide⟩, by decide +kernel, by decide⟩
theorem k_Lw_220 : kV "WindBridesLaw" 220 12 M_Mo_trace 1 := ⟨kc_Mo_trace, _, _, _, rfl, z_mem 1790 (by decide +kernel) rfl, z_mem 1791 (by decide +kernel) rfl, z_mem 1789 (by decide +kernel) rfl⟩
set_option maxRecDepth 20000 in
theorem kc_Wb_many : kC M_Wb_many 1 := ⟨z_mem 1165 (by rfl) rfl, z_mem 101 (by decide +kernel) rfl, ⟨by decide, by decide⟩, by decide +kernel, by decide⟩
theorem k_Lw_221 : kV "WindBridesLaw" 221 11 M_Wb_many 1 := ⟨kc_Wb_many, _, _, _, rfl, z_mem 1163 (by decide +kernel) rfl, z_mem 1164 (by decide +kernel) rfl, z_mem 1162 (by decide +kernel) rfl⟩
set_option maxRecDepth 20000 in
theorem kc_Mo_many : kC M_Mo_many 1 := ⟨z_mem 1796 (by rfl) rfl, z_mem 107 (by decide +kernel) rfl, ⟨by decide, by decide⟩, by decide +kernel, by decide⟩
theorem k_Lw_224 : kV "WindBridesLaw" 224 12 M_Mo_many 1 := ⟨kc_Mo_many, _, _, _, rfl, z_mem 1794 (by decide +kernel) rfl, z_mem 1795 (by decide +kernel) rfl, z_mem 1793 (by decide +kernel) rfl⟩
set_option maxRecDepth 20000 in
theorem kc_Wb_keep : kC M_Wb_keep 0 := ⟨z_mem 1176 (by rfl) rfl, z_mem 101 (by decide +kernel) rfl, ⟨by decide, by decide⟩, by decide +kernel, by decide⟩
theorem k_Lw_225 : kV "WindBridesLaw" 225 11 M_Wb_keep 0 := ⟨kc_Wb_keep, _, _, _, rfl, z_mem 1174 (by decide +kernel) rfl, z_mem 1175 (by decide +kernel) rfl, z_mem 1173 (by decide +kernel) rfl⟩
set_option maxRecDepth 20000 in
theorem kc_Mo_keep : kC M_Mo_keep 0 := ⟨z_mem 1803 (by rfl) rfl, z_mem 107 (by decide +kernel) rfl, ⟨by decide, by decide⟩, by decide +kernel, by decide⟩
theorem k_Lw_228 : kV "WindBridesLaw" 228 12 M_Mo_keep 0 := ⟨kc_Mo_keep, _, _, _, rfl, z_mem 1801 (by decide +kernel) rfl, z_mem 1802 (by decide +kernel) rfl, z_mem 1800 (by decide +kernel) rfl⟩
set_option maxRecDepth 20000 in
theorem kc_Wb_again : kC M_Wb_again 0 := ⟨z_mem 1187 (by rfl) rfl, z_mem 101 (by decide +kernel) rfl, ⟨by decide, by decide⟩, by decide +kernel, by decide⟩
theorem k_Lw_229 : kV "WindBridesLaw" 229 11 M_Wb_again 0 := ⟨kc_Wb_again, _, _, _, rfl, z_mem 1185 (by decide +kernel) rfl, z_mem 1186 (by decide +kernel) rfl, z_mem 1184 (by decide +kernel) rfl⟩
set_option maxRecDepth 20000 in
theorem kc_Mo_again : kC M_Mo_again 0 := ⟨z_mem 1807 (by rfl) rfl, z_mem 107 (by decide +kernel) rfl, ⟨by decide, by decide⟩, by decide +kernel, by decide⟩
theorem k_Lw_232 : kV "WindBridesLaw" 232 12 M_Mo_again 0 := ⟨kc_Mo_again, _, _, _, rfl, z_mem 1805 (by decide +kernel) rfl, z_mem 1806 (by decide +kernel) rfl, z_mem 1804 (by decide +kernel) rfl⟩
