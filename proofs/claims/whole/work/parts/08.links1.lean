/-- a field that is only read -/
def zFr (own : String) (idx ci fk : Nat) : Prop := ∃ (C : String) (T : u_T) (N : Nat) (ref : String), zCl[ci]? = some (C, T, N) ∧ fk < N ∧ (∀ w ∈ u_ws C T N, w ∈ zT) ∧ Cond.fieldLink own idx ref (T fk).2.1 (T fk).2.2.1 ∈ zT ∧ (ref = (T fk).1 ∨ Cond.sameField ref (T fk).1 (T fk).2.1 (T fk).2.2.1 ∈ zT)
theorem zFr_ci {own : String} {idx ci fk : Nat} (h : zFr own idx ci fk) : ci ≠ 99 := by
  obtain ⟨C, T, N, ref, h1, -⟩ := h
  intro e
  subst e
  cases h1
section ZL
variable {G : zG} {d : Nat} {M : zM} {pc pc' : Nat} {lv st : List Value} {n u : Nat} {μ : Nat → va_E} {nF uF : Nat} {Φ : zP}
theorem z_getr {a ci fk idx : Nat} {fs : List Value} {v : Value} (k : Nat) (hd : (mI M)[k]? = some (pc, .getfield idx, 3)) (hp : pc + 3 = pc') (hf : zFr (mO M) idx ci fk) (hm : μ a = .inr (ci, fs)) (hv : fs[fk]? = some v) (kk : zW G d M pc' lv (v :: st) n u μ nF uF Φ) : zW G d M pc lv (.ref a :: st) n u μ nF uF Φ := by
  subst hp
  have hci := zFr_ci hf
  obtain ⟨C, T, N, ref, f1, f2, f3, f4, f5⟩ := hf
  intro p e R s m args below meth c n0 u0 B h1 h2 H locs ls hR hl hlv
  obtain ⟨g1, g2⟩ := zR_in hR hm hci
  have he := zws_at (G := G) (n := n) (μ := μ) g1 g2
  rw [hm] at he
  exact va_get B.1 B.2.1 (zB_T B) f3 (zB_own B) (zB_K B) hR.2.2.1 (a - 4) he f1 fk f2 (zB_T B _ f4) (z_same (zB_T B) f5) (v := zv G v) (by rw [List.getElem?_map, hv]; rfl) (z_dec (zB_ok B) hd) (kk p e R s m args below meth c n0 u0 B h1 h2 H locs ls hR hl hlv)
end ZL
theorem ky_nat : Cond.native arraycopyName ∈ zT := z_mem 642 (by decide +kernel) rfl
theorem ky_sta : Cond.static arraycopyName ∈ zT := z_mem 641 (by decide +kernel) rfl
theorem ky_ini : Cond.initialized "java/lang/System" ∈ zT := z_mem 112 (by decide +kernel) rfl
theorem ko_ins : Cond.instanceMethod objectInit ∈ zT := z_mem 126 (by decide +kernel) rfl
theorem ko_cod : Cond.code objectInit ⟨#[0xb1]⟩ 1 none ∈ zT := z_mem 127 (by rfl) rfl
theorem ka_int : Cond.arrayClass .int ∈ zT := z_mem 163 (by decide +kernel) rfl
theorem ka_boo : Cond.arrayClass .boolean ∈ zT := z_mem 1297 (by decide +kernel) rfl
theorem ka_lon : Cond.arrayClass .long ∈ zT := z_mem 1298 (by decide +kernel) rfl
theorem ko_Wb_1 : Cond.methodLink "WindBrides" 1 objectInit ∈ zT := z_mem 125 (by decide +kernel) rfl
theorem w_Wb_7 : zN "WindBrides" 7 3 17 [.int 0, .null, .null, .null, .int 0, .null, .null, .null, .null, .int 0, .int 0, .int 0, .null, .null, .int 0, .null, .null] := ⟨R_Co, F_Co, t_Co, rfl, i_Co, t_Co_ok, z_mem 128 (by decide +kernel) rfl, z_mem 129 (by decide +kernel) rfl, z_mem 102 (by decide +kernel) rfl, by decide +kernel, by decide⟩
set_option maxRecDepth 20000 in
theorem kc_Co_init : kC M_Co_init 0 := ⟨z_mem 132 (by rfl) rfl, z_mem 102 (by decide +kernel) rfl, ⟨by decide, by decide⟩, by decide +kernel, by decide⟩
theorem k_Wb_9 : kI "WindBrides" 9 M_Co_init 0 := ⟨kc_Co_init, rfl, rfl, z_mem 131 (by decide +kernel) rfl, Or.inr ⟨"WindBrides", z_memN 130 (by decide +kernel) rfl⟩⟩
theorem f_Wb_10_11 : zF "WindBrides" 10 11 0 (.object "WindBrides$Coast") true := ⟨R_Wb, F_Wb, 15, "WindBrides", t_Wb, rfl, by decide, i_Wb, z_mem 352 (by decide +kernel) rfl, Or.inl rfl, t_Wb_ok, n_Wb, rfl, by decide +kernel, fun _ => rfl⟩
theorem f_Wb_16_11 : zF "WindBrides" 16 11 1 (.object "WindBrides$Coast") true := ⟨R_Wb, F_Wb, 15, "WindBrides", t_Wb, rfl, by decide, i_Wb, z_mem 353 (by decide +kernel) rfl, Or.inl rfl, t_Wb_ok, n_Wb, rfl, by decide +kernel, fun _ => rfl⟩
theorem w_Wb_19 : zN "WindBrides" 19 4 5 [.int 0, .null, .null, .int 0, .null] := ⟨R_Cr, F_Cr, t_Cr, rfl, i_Cr, t_Cr_ok, z_mem 267 (by decide +kernel) rfl, z_mem 135 (by decide +kernel) rfl, z_mem 103 (by decide +kernel) rfl, by decide +kernel, by decide⟩
set_option maxRecDepth 20000 in
theorem kc_Cr_init : kC M_Cr_init 0 := ⟨z_mem 138 (by rfl) rfl, z_mem 103 (by decide +kernel) rfl, ⟨by decide, by decide⟩, by decide +kernel, by decide⟩
theorem k_Wb_21 : kI "WindBrides" 21 M_Cr_init 0 := ⟨kc_Cr_init, rfl, rfl, z_mem 137 (by decide +kernel) rfl, Or.inr ⟨"WindBrides", z_memN 268 (by decide +kernel) rfl⟩⟩
theorem f_Wb_22_11 : zF "WindBrides" 22 11 3 (.object "WindBrides$Course") true := ⟨R_Wb, F_Wb, 15, "WindBrides", t_Wb, rfl, by decide, i_Wb, z_mem 355 (by decide +kernel) rfl, Or.inl rfl, t_Wb_ok, n_Wb, rfl, by decide +kernel, fun _ => rfl⟩
theorem w_Wb_26 : zN "WindBrides" 26 9 5 [.int 0, .null, .null, .null, .int 0] := ⟨R_Ta, F_Ta, t_Ta, rfl, i_Ta, t_Ta_ok, z_mem 269 (by decide +kernel) rfl, z_mem 270 (by decide +kernel) rfl, z_mem 105 (by decide +kernel) rfl, by decide +kernel, by decide⟩
set_option maxRecDepth 20000 in
theorem kc_Ta_init : kC M_Ta_init 0 := ⟨z_mem 273 (by rfl) rfl, z_mem 105 (by decide +kernel) rfl, ⟨by decide, by decide⟩, by decide +kernel, by decide⟩
theorem k_Wb_28 : kI "WindBrides" 28 M_Ta_init 0 := ⟨kc_Ta_init, rfl, rfl, z_mem 272 (by decide +kernel) rfl, Or.inr ⟨"WindBrides", z_memN 271 (by decide +kernel) rfl⟩⟩
theorem f_Wb_29_11 : zF "WindBrides" 29 11 4 (.object "WindBrides$Tape") true := ⟨R_Wb, F_Wb, 15, "WindBrides", t_Wb, rfl, by decide, i_Wb, z_mem 356 (by decide +kernel) rfl, Or.inl rfl, t_Wb_ok, n_Wb, rfl, by decide +kernel, fun _ => rfl⟩
theorem w_Wb_33 : zN "WindBrides" 33 0 6 [.int 0, .null, .null, .null, .null, .int 0] := ⟨R_Bk, F_Bk, t_Bk, rfl, i_Bk, t_Bk_ok, z_mem 292 (by decide +kernel) rfl, z_mem 165 (by decide +kernel) rfl, z_mem 104 (by decide +kernel) rfl, by decide +kernel, by decide⟩
set_option maxRecDepth 20000 in
theorem kc_Bk_init : kC M_Bk_init 0 := ⟨z_mem 168 (by rfl) rfl, z_mem 104 (by decide +kernel) rfl, ⟨by decide, by decide⟩, by decide +kernel, by decide⟩
theorem k_Wb_35 : kI "WindBrides" 35 M_Bk_init 0 := ⟨kc_Bk_init, rfl, rfl, z_mem 167 (by decide +kernel) rfl, Or.inr ⟨"WindBrides", z_memN 293 (by decide +kernel) rfl⟩⟩
theorem f_Wb_36_11 : zF "WindBrides" 36 11 5 (.object "WindBrides$Book") true := ⟨R_Wb, F_Wb, 15, "WindBrides", t_Wb, rfl, by decide, i_Wb, z_mem 357 (by decide +kernel) rfl, Or.inl rfl, t_Wb_ok, n_Wb, rfl, by decide +kernel, fun _ => rfl⟩
theorem w_Wb_40 : zN "WindBrides" 40 7 13 [.int 0, .int 0, .int 0, .null, .int 0, .int 0, .int 0, .int 0, .null, .null, .int 0, .null, .null] := ⟨R_Pl, F_Pl, t_Pl, rfl, i_Pl, t_Pl_ok, z_mem 294 (by decide +kernel) rfl, z_mem 295 (by decide +kernel) rfl, z_mem 106 (by decide +kernel) rfl, by decide +kernel, by decide⟩
set_option maxRecDepth 20000 in
theorem kc_Pl_init : kC M_Pl_init 0 := ⟨z_mem 298 (by rfl) rfl, z_mem 106 (by decide +kernel) rfl, ⟨by decide, by decide⟩, by decide +kernel, by decide⟩
theorem k_Wb_42 : kI "WindBrides" 42 M_Pl_init 0 := ⟨kc_Pl_init, rfl, rfl, z_mem 297 (by decide +kernel) rfl, Or.inl (z_mem 296 (by decide +kernel) rfl)⟩
theorem f_Wb_43_11 : zF "WindBrides" 43 11 6 (.object "WindBrides$Plans") true := ⟨R_Wb, F_Wb, 15, "WindBrides", t_Wb, rfl, by decide, i_Wb, z_mem 358 (by decide +kernel) rfl, Or.inl rfl, t_Wb_ok, n_Wb, rfl, by decide +kernel, fun _ => rfl⟩
theorem f_Wb_47_11 : zF "WindBrides" 47 11 7 (.array .int) true := ⟨R_Wb, F_Wb, 15, "WindBrides", t_Wb, rfl, by decide, i_Wb, z_mem 359 (by decide +kernel) rfl, Or.inl rfl, t_Wb_ok, n_Wb, rfl, by decide +kernel, fun _ => rfl⟩
theorem f_Wb_51_11 : zF "WindBrides" 51 11 8 (.array .int) true := ⟨R_Wb, F_Wb, 15, "WindBrides", t_Wb, rfl, by decide, i_Wb, z_mem 360 (by decide +kernel) rfl, Or.inl rfl, t_Wb_ok, n_Wb, rfl, by decide +kernel, fun _ => rfl⟩
theorem f_Wb_54_11 : zF "WindBrides" 54 11 9 (.array .int) true := ⟨R_Wb, F_Wb, 15, "WindBrides", t_Wb, rfl, by decide, i_Wb, z_mem 361 (by decide +kernel) rfl, Or.inl rfl, t_Wb_ok, n_Wb, rfl, by decide +kernel, fun _ => rfl⟩
theorem f_Wb_57_11 : zF "WindBrides" 57 11 10 (.array .int) true := ⟨R_Wb, F_Wb, 15, "WindBrides", t_Wb, rfl, by decide, i_Wb, z_mem 362 (by decide +kernel) rfl, Or.inl rfl, t_Wb_ok, n_Wb, rfl, by decide +kernel, fun _ => rfl⟩
theorem f_Wb_60_11 : zF "WindBrides" 60 11 11 (.array .int) true := ⟨R_Wb, F_Wb, 15, "WindBrides", t_Wb, rfl, by decide, i_Wb, z_mem 363 (by decide +kernel) rfl, Or.inl rfl, t_Wb_ok, n_Wb, rfl, by decide +kernel, fun _ => rfl⟩
theorem f_Wb_63_11 : zF "WindBrides" 63 11 12 (.array .int) true := ⟨R_Wb, F_Wb, 15, "WindBrides", t_Wb, rfl, by decide, i_Wb, z_mem 364 (by decide +kernel) rfl, Or.inl rfl, t_Wb_ok, n_Wb, rfl, by decide +kernel, fun _ => rfl⟩
theorem f_Wb_66_11 : zF "WindBrides" 66 11 13 (.array .int) true := ⟨R_Wb, F_Wb, 15, "WindBrides", t_Wb, rfl, by decide, i_Wb, z_mem 365 (by decide +kernel) rfl, Or.inl rfl, t_Wb_ok, n_Wb, rfl, by decide +kernel, fun _ => rfl⟩
theorem ko_Co_3 : Cond.methodLink "WindBrides$Coast" 3 objectInit ∈ zT := z_mem 133 (by decide +kernel) rfl
theorem f_Co_9_3 : zF "WindBrides$Coast" 9 3 1 (.array .int) true := ⟨R_Co, F_Co, 17, "WindBrides$Coast", t_Co, rfl, by decide, i_Co, z_mem 195 (by decide +kernel) rfl, Or.inl rfl, t_Co_ok, n_Co, rfl, by decide +kernel, fun _ => rfl⟩
theorem f_Co_15_3 : zF "WindBrides$Coast" 15 3 2 (.array .int) true := ⟨R_Co, F_Co, 17, "WindBrides$Coast", t_Co, rfl, by decide, i_Co, z_mem 198 (by decide +kernel) rfl, Or.inl rfl, t_Co_ok, n_Co, rfl, by decide +kernel, fun _ => rfl⟩
theorem f_Co_18_3 : zF "WindBrides$Coast" 18 3 3 (.array .int) true := ⟨R_Co, F_Co, 17, "WindBrides$Coast", t_Co, rfl, by decide, i_Co, z_mem 201 (by decide +kernel) rfl, Or.inl rfl, t_Co_ok, n_Co, rfl, by decide +kernel, fun _ => rfl⟩
theorem f_Co_21_3 : zF "WindBrides$Coast" 21 3 5 (.array .int) true := ⟨R_Co, F_Co, 17, "WindBrides$Coast", t_Co, rfl, by decide, i_Co, z_mem 207 (by decide +kernel) rfl, Or.inl rfl, t_Co_ok, n_Co, rfl, by decide +kernel, fun _ => rfl⟩
theorem f_Co_24_3 : zF "WindBrides$Coast" 24 3 6 (.array .int) true := ⟨R_Co, F_Co, 17, "WindBrides$Coast", t_Co, rfl, by decide, i_Co, z_mem 209 (by decide +kernel) rfl, Or.inl rfl, t_Co_ok, n_Co, rfl, by decide +kernel, fun _ => rfl⟩
theorem f_Co_27_3 : zF "WindBrides$Coast" 27 3 7 (.array .int) true := ⟨R_Co, F_Co, 17, "WindBrides$Coast", t_Co, rfl, by decide, i_Co, z_mem 211 (by decide +kernel) rfl, Or.inl rfl, t_Co_ok, n_Co, rfl, by decide +kernel, fun _ => rfl⟩
theorem f_Co_30_3 : zF "WindBrides$Coast" 30 3 8 (.array .int) true := ⟨R_Co, F_Co, 17, "WindBrides$Coast", t_Co, rfl, by decide, i_Co, z_mem 213 (by decide +kernel) rfl, Or.inl rfl, t_Co_ok, n_Co, rfl, by decide +kernel, fun _ => rfl⟩
theorem f_Co_33_3 : zF "WindBrides$Coast" 33 3 9 .int false := ⟨R_Co, F_Co, 17, "WindBrides$Coast", t_Co, rfl, by decide, i_Co, z_mem 215 (by decide +kernel) rfl, Or.inl rfl, t_Co_ok, n_Co, rfl, by decide +kernel, by intro h; cases h⟩
theorem f_Co_37_3 : zF "WindBrides$Coast" 37 3 11 .int false := ⟨R_Co, F_Co, 17, "WindBrides$Coast", t_Co, rfl, by decide, i_Co, z_mem 220 (by decide +kernel) rfl, Or.inl rfl, t_Co_ok, n_Co, rfl, by decide +kernel, by intro h; cases h⟩
theorem w_Co_40 : zN "WindBrides$Coast" 40 4 5 [.int 0, .null, .null, .int 0, .null] := ⟨R_Cr, F_Cr, t_Cr, rfl, i_Cr, t_Cr_ok, z_mem 134 (by decide +kernel) rfl, z_mem 135 (by decide +kernel) rfl, z_mem 103 (by decide +kernel) rfl, by decide +kernel, by decide⟩
theorem k_Co_42 : kI "WindBrides$Coast" 42 M_Cr_init 0 := ⟨kc_Cr_init, rfl, rfl, z_mem 137 (by decide +kernel) rfl, Or.inr ⟨"WindBrides", z_memN 136 (by decide +kernel) rfl⟩⟩
theorem f_Co_43_3 : zF "WindBrides$Coast" 43 3 12 (.object "WindBrides$Course") true := ⟨R_Co, F_Co, 17, "WindBrides$Coast", t_Co, rfl, by decide, i_Co, z_mem 222 (by decide +kernel) rfl, Or.inl rfl, t_Co_ok, n_Co, rfl, by decide +kernel, fun _ => rfl⟩
theorem w_Co_47 : zN "WindBrides$Coast" 47 0 6 [.int 0, .null, .null, .null, .null, .int 0] := ⟨R_Bk, F_Bk, t_Bk, rfl, i_Bk, t_Bk_ok, z_mem 164 (by decide +kernel) rfl, z_mem 165 (by decide +kernel) rfl, z_mem 104 (by decide +kernel) rfl, by decide +kernel, by decide⟩
theorem k_Co_49 : kI "WindBrides$Coast" 49 M_Bk_init 0 := ⟨kc_Bk_init, rfl, rfl, z_mem 167 (by decide +kernel) rfl, Or.inr ⟨"WindBrides", z_memN 166 (by decide +kernel) rfl⟩⟩
theorem f_Co_50_3 : zF "WindBrides$Coast" 50 3 13 (.object "WindBrides$Book") true := ⟨R_Co, F_Co, 17, "WindBrides$Coast", t_Co, rfl, by decide, i_Co, z_mem 225 (by decide +kernel) rfl, Or.inl rfl, t_Co_ok, n_Co, rfl, by decide +kernel, fun _ => rfl⟩
theorem f_Co_54_3 : zF "WindBrides$Coast" 54 3 15 (.array .int) true := ⟨R_Co, F_Co, 17, "WindBrides$Coast", t_Co, rfl, by decide, i_Co, z_mem 230 (by decide +kernel) rfl, Or.inl rfl, t_Co_ok, n_Co, rfl, by decide +kernel, fun _ => rfl⟩
theorem f_Co_57_3 : zF "WindBrides$Coast" 57 3 16 (.array .int) true := ⟨R_Co, F_Co, 17, "WindBrides$Coast", t_Co, rfl, by decide, i_Co, z_mem 231 (by decide +kernel) rfl, Or.inl rfl, t_Co_ok, n_Co, rfl, by decide +kernel, fun _ => rfl⟩
theorem ko_Cr_3 : Cond.methodLink "WindBrides$Course" 3 objectInit ∈ zT := z_mem 139 (by decide +kernel) rfl
theorem f_Cr_9_4 : zF "WindBrides$Course" 9 4 1 (.array .int) true := ⟨R_Cr, F_Cr, 5, "WindBrides$Course", t_Cr, rfl, by decide, i_Cr, z_mem 144 (by decide +kernel) rfl, Or.inl rfl, t_Cr_ok, n_Cr, rfl, by decide +kernel, fun _ => rfl⟩
theorem f_Cr_15_4 : zF "WindBrides$Course" 15 4 2 (.array .int) true := ⟨R_Cr, F_Cr, 5, "WindBrides$Course", t_Cr, rfl, by decide, i_Cr, z_mem 147 (by decide +kernel) rfl, Or.inl rfl, t_Cr_ok, n_Cr, rfl, by decide +kernel, fun _ => rfl⟩
theorem f_Cr_20_4 : zF "WindBrides$Course" 20 4 4 (.array .int) true := ⟨R_Cr, F_Cr, 5, "WindBrides$Course", t_Cr, rfl, by decide, i_Cr, z_mem 151 (by decide +kernel) rfl, Or.inl rfl, t_Cr_ok, n_Cr, rfl, by decide +kernel, fun _ => rfl⟩
theorem ko_Bk_3 : Cond.methodLink "WindBrides$Book" 3 objectInit ∈ zT := z_mem 169 (by decide +kernel) rfl
theorem f_Bk_11_0 : zF "WindBrides$Book" 11 0 1 (.array .int) true := ⟨R_Bk, F_Bk, 6, "WindBrides$Book", t_Bk, rfl, by decide, i_Bk, z_mem 173 (by decide +kernel) rfl, Or.inl rfl, t_Bk_ok, n_Bk, rfl, by decide +kernel, fun _ => rfl⟩
theorem f_Bk_15_0 : zF "WindBrides$Book" 15 0 2 (.array .int) true := ⟨R_Bk, F_Bk, 6, "WindBrides$Book", t_Bk, rfl, by decide, i_Bk, z_mem 174 (by decide +kernel) rfl, Or.inl rfl, t_Bk_ok, n_Bk, rfl, by decide +kernel, fun _ => rfl⟩
theorem f_Bk_18_0 : zF "WindBrides$Book" 18 0 3 (.array .int) true := ⟨R_Bk, F_Bk, 6, "WindBrides$Book", t_Bk, rfl, by decide, i_Bk, z_mem 175 (by decide +kernel) rfl, Or.inl rfl, t_Bk_ok, n_Bk, rfl, by decide +kernel, fun _ => rfl⟩
theorem f_Bk_23_0 : zF "WindBrides$Book" 23 0 4 (.array .int) true := ⟨R_Bk, F_Bk, 6, "WindBrides$Book", t_Bk, rfl, by decide, i_Bk, z_mem 176 (by decide +kernel) rfl, Or.inl rfl, t_Bk_ok, n_Bk, rfl, by decide +kernel, fun _ => rfl⟩
theorem ko_Ta_3 : Cond.methodLink "WindBrides$Tape" 3 objectInit ∈ zT := z_mem 274 (by decide +kernel) rfl
theorem f_Ta_11_9 : zF "WindBrides$Tape" 11 9 1 (.array .int) true := ⟨R_Ta, F_Ta, 5, "WindBrides$Tape", t_Ta, rfl, by decide, i_Ta, z_mem 277 (by decide +kernel) rfl, Or.inl rfl, t_Ta_ok, n_Ta, rfl, by decide +kernel, fun _ => rfl⟩
theorem f_Ta_15_9 : zF "WindBrides$Tape" 15 9 2 (.array .int) true := ⟨R_Ta, F_Ta, 5, "WindBrides$Tape", t_Ta, rfl, by decide, i_Ta, z_mem 278 (by decide +kernel) rfl, Or.inl rfl, t_Ta_ok, n_Ta, rfl, by decide +kernel, fun _ => rfl⟩
theorem f_Ta_18_9 : zF "WindBrides$Tape" 18 9 3 (.array .int) true := ⟨R_Ta, F_Ta, 5, "WindBrides$Tape", t_Ta, rfl, by decide, i_Ta, z_mem 279 (by decide +kernel) rfl, Or.inl rfl, t_Ta_ok, n_Ta, rfl, by decide +kernel, fun _ => rfl⟩
theorem ko_Pl_3 : Cond.methodLink "WindBrides$Plans" 3 objectInit ∈ zT := z_mem 299 (by decide +kernel) rfl
theorem f_Pl_9_7 : zF "WindBrides$Plans" 9 7 3 (.array .int) true := ⟨R_Pl, F_Pl, 13, "WindBrides$Plans", t_Pl, rfl, by decide, i_Pl, z_mem 309 (by decide +kernel) rfl, Or.inl rfl, t_Pl_ok, n_Pl, rfl, by decide +kernel, fun _ => rfl⟩
theorem f_Pl_15_7 : zF "WindBrides$Plans" 15 7 8 (.array .int) true := ⟨R_Pl, F_Pl, 13, "WindBrides$Plans", t_Pl, rfl, by decide, i_Pl, z_mem 319 (by decide +kernel) rfl, Or.inl rfl, t_Pl_ok, n_Pl, rfl, by decide +kernel, fun _ => rfl⟩
theorem f_Pl_18_7 : zF "WindBrides$Plans" 18 7 11 (.array .int) true := ⟨R_Pl, F_Pl, 13, "WindBrides$Plans", t_Pl, rfl, by decide, i_Pl, z_mem 323 (by decide +kernel) rfl, Or.inl rfl, t_Pl_ok, n_Pl, rfl, by decide +kernel, fun _ => rfl⟩
theorem w_Pl_21 : Cond.classLink "WindBrides$Plans" 21 "WindBrides$Course" ∈ zT := z_mem 300 (by decide +kernel) rfl
theorem f_Pl_23_7 : zF "WindBrides$Plans" 23 7 12 (.array (.object "WindBrides$Course")) true := ⟨R_Pl, F_Pl, 13, "WindBrides$Plans", t_Pl, rfl, by decide, i_Pl, z_mem 324 (by decide +kernel) rfl, Or.inl rfl, t_Pl_ok, n_Pl, rfl, by decide +kernel, fun _ => rfl⟩
theorem k_Pl_27 : kI "WindBrides$Plans" 27 M_Cr_init 0 := ⟨kc_Cr_init, rfl, rfl, z_mem 137 (by decide +kernel) rfl, Or.inr ⟨"WindBrides", z_memN 302 (by decide +kernel) rfl⟩⟩
set_option maxRecDepth 20000 in
theorem kc_Wb_within : kC M_Wb_within 3 := ⟨z_mem 404 (by rfl) rfl, z_mem 101 (by decide +kernel) rfl, ⟨by decide, by decide⟩, by decide +kernel, by decide⟩
theorem k_Wb_72 : kS "WindBrides" 72 M_Wb_within 3 := ⟨kc_Wb_within, z_mem 403 (by decide +kernel) rfl, Or.inl (z_mem 402 (by decide +kernel) rfl)⟩
theorem f_Wb_76_3 : zF "WindBrides" 76 3 0 .int false := ⟨R_Co, F_Co, 17, "WindBrides$Coast", t_Co, rfl, by decide, i_Co, z_mem 194 (by decide +kernel) rfl, Or.inl rfl, t_Co_ok, n_Co, rfl, by decide +kernel, by intro h; cases h⟩
set_option maxRecDepth 20000 in
theorem kc_Co_addGirl : kC M_Co_addGirl 3 := ⟨z_mem 408 (by rfl) rfl, z_mem 102 (by decide +kernel) rfl, ⟨by decide, by decide⟩, by decide +kernel, by decide⟩
theorem k_Wb_80 : kV "WindBrides" 80 3 M_Co_addGirl 3 := ⟨kc_Co_addGirl, _, _, _, rfl, z_mem 406 (by decide +kernel) rfl, z_mem 407 (by decide +kernel) rfl, z_mem 405 (by decide +kernel) rfl⟩
theorem f_Co_60_3 : zF "WindBrides$Coast" 60 3 0 .int false := ⟨R_Co, F_Co, 17, "WindBrides$Coast", t_Co, rfl, by decide, i_Co, z_mem 191 (by decide +kernel) rfl, Or.inl rfl, t_Co_ok, n_Co, rfl, by decide +kernel, by intro h; cases h⟩
set_option maxRecDepth 20000 in
theorem kc_Cr_promiseTo : kC M_Cr_promiseTo 3 := ⟨z_mem 412 (by rfl) rfl, z_mem 103 (by decide +kernel) rfl, ⟨by decide, by decide⟩, by decide +kernel, by decide⟩
theorem k_Co_88 : kV "WindBrides$Coast" 88 4 M_Cr_promiseTo 3 := ⟨kc_Cr_promiseTo, _, _, _, rfl, z_mem 410 (by decide +kernel) rfl, z_mem 411 (by decide +kernel) rfl, z_mem 409 (by decide +kernel) rfl⟩
theorem f_Cr_36_3 : zFr "WindBrides$Course" 36 3 3 := ⟨R_Co, F_Co, 17, "WindBrides$Coast", rfl, by decide, i_Co, z_mem 202 (by decide +kernel) rfl, Or.inl rfl⟩
set_option maxRecDepth 20000 in
theorem kc_Co_hasGirl : kC M_Co_hasGirl 1 := ⟨z_mem 420 (by rfl) rfl, z_mem 102 (by decide +kernel) rfl, ⟨by decide, by decide⟩, by decide +kernel, by decide⟩
theorem k_Wb_84 : kV "WindBrides" 84 3 M_Co_hasGirl 1 := ⟨kc_Co_hasGirl, _, _, _, rfl, z_mem 418 (by decide +kernel) rfl, z_mem 419 (by decide +kernel) rfl, z_mem 417 (by decide +kernel) rfl⟩
theorem f_Wb_88_3 : zFr "WindBrides" 88 3 1 := ⟨R_Co, F_Co, 17, "WindBrides$Coast", rfl, by decide, i_Co, z_mem 196 (by decide +kernel) rfl, Or.inl rfl⟩
theorem f_Wb_91_3 : zFr "WindBrides" 91 3 2 := ⟨R_Co, F_Co, 17, "WindBrides$Coast", rfl, by decide, i_Co, z_mem 200 (by decide +kernel) rfl, Or.inl rfl⟩
theorem f_Wb_94_3 : zFr "WindBrides" 94 3 3 := ⟨R_Co, F_Co, 17, "WindBrides$Coast", rfl, by decide, i_Co, z_mem 203 (by decide +kernel) rfl, Or.inl rfl⟩
theorem f_Wb_97_3 : zFr "WindBrides" 97 3 12 := ⟨R_Co, F_Co, 17, "WindBrides$Coast", rfl, by decide, i_Co, z_mem 224 (by decide +kernel) rfl, Or.inl rfl⟩
theorem f_Wb_100_4 : zFr "WindBrides" 100 4 1 := ⟨R_Cr, F_Cr, 5, "WindBrides$Course", rfl, by decide, i_Cr, z_mem 145 (by decide +kernel) rfl, Or.inl rfl⟩
theorem f_Wb_103_4 : zFr "WindBrides" 103 4 2 := ⟨R_Cr, F_Cr, 5, "WindBrides$Course", rfl, by decide, i_Cr, z_mem 148 (by decide +kernel) rfl, Or.inl rfl⟩
set_option maxRecDepth 20000 in
theorem kc_Cr_doesInCalm : kC M_Cr_doesInCalm 2 := ⟨z_mem 424 (by rfl) rfl, z_mem 103 (by decide +kernel) rfl, ⟨by decide, by decide⟩, by decide +kernel, by decide⟩
theorem k_Wb_106 : kV "WindBrides" 106 4 M_Cr_doesInCalm 2 := ⟨kc_Cr_doesInCalm, _, _, _, rfl, z_mem 422 (by decide +kernel) rfl, z_mem 423 (by decide +kernel) rfl, z_mem 421 (by decide +kernel) rfl⟩
theorem f_Cr_23_4 : zF "WindBrides$Course" 23 4 0 .int false := ⟨R_Cr, F_Cr, 5, "WindBrides$Course", t_Cr, rfl, by decide, i_Cr, z_mem 140 (by decide +kernel) rfl, Or.inl rfl, t_Cr_ok, n_Cr, rfl, by decide +kernel, by intro h; cases h⟩
theorem f_Cr_44_3 : zFr "WindBrides$Course" 44 3 2 := ⟨R_Co, F_Co, 17, "WindBrides$Coast", rfl, by decide, i_Co, z_mem 199 (by decide +kernel) rfl, Or.inl rfl⟩
theorem f_Cr_47_3 : zFr "WindBrides$Course" 47 3 13 := ⟨R_Co, F_Co, 17, "WindBrides$Coast", rfl, by decide, i_Co, z_mem 226 (by decide +kernel) rfl, Or.inl rfl⟩
theorem f_Cr_51_3 : zFr "WindBrides$Course" 51 3 1 := ⟨R_Co, F_Co, 17, "WindBrides$Coast", rfl, by decide, i_Co, z_mem 197 (by decide +kernel) rfl, Or.inl rfl⟩
set_option maxRecDepth 20000 in
theorem kc_Bk_tells : kC M_Bk_tells 2 := ⟨z_mem 428 (by rfl) rfl, z_mem 104 (by decide +kernel) rfl, ⟨by decide, by decide⟩, by decide +kernel, by decide⟩
theorem k_Cr_54 : kV "WindBrides$Course" 54 0 M_Bk_tells 2 := ⟨kc_Bk_tells, _, _, _, rfl, z_mem 426 (by decide +kernel) rfl, z_mem 427 (by decide +kernel) rfl, z_mem 425 (by decide +kernel) rfl⟩
theorem f_Bk_26_0 : zF "WindBrides$Book" 26 0 0 .int false := ⟨R_Bk, F_Bk, 6, "WindBrides$Book", t_Bk, rfl, by decide, i_Bk, z_mem 170 (by decide +kernel) rfl, Or.inl rfl, t_Bk_ok, n_Bk, rfl, by decide +kernel, by intro h; cases h⟩
set_option maxRecDepth 20000 in
theorem kc_Wb_isUnder : kC M_Wb_isUnder 2 := ⟨z_mem 431 (by rfl) rfl, z_mem 101 (by decide +kernel) rfl, ⟨by decide, by decide⟩, by decide +kernel, by decide⟩
theorem k_Bk_39 : kS "WindBrides$Book" 39 M_Wb_isUnder 2 := ⟨kc_Wb_isUnder, z_mem 430 (by decide +kernel) rfl, Or.inr ⟨"WindBrides", z_memN 429 (by decide +kernel) rfl⟩⟩
set_option maxRecDepth 20000 in
theorem kc_Bk_holds : kC M_Bk_holds 2 := ⟨z_mem 437 (by rfl) rfl, z_mem 104 (by decide +kernel) rfl, ⟨by decide, by decide⟩, by decide +kernel, by decide⟩
theorem k_Bk_43 : kV "WindBrides$Book" 43 0 M_Bk_holds 2 := ⟨kc_Bk_holds, _, _, _, rfl, z_mem 436 (by decide +kernel) rfl, z_mem 0 (by decide +kernel) rfl, z_mem 434 (by decide +kernel) rfl⟩
theorem g_Wb_69 : Cond.fieldLink "WindBrides" 69 "WindBrides" "LINEAGE" "[I" ∈ zT := z_mem 432 (by decide +kernel) rfl
set_option maxRecDepth 20000 in
theorem kc_Bk_compares : kC M_Bk_compares 2 := ⟨z_mem 441 (by rfl) rfl, z_mem 104 (by decide +kernel) rfl, ⟨by decide, by decide⟩, by decide +kernel, by decide⟩
theorem k_Bk_47 : kV "WindBrides$Book" 47 0 M_Bk_compares 2 := ⟨kc_Bk_compares, _, _, _, rfl, z_mem 440 (by decide +kernel) rfl, z_mem 1 (by decide +kernel) rfl, z_mem 438 (by decide +kernel) rfl⟩
theorem f_Wb_110_3 : zF "WindBrides" 110 3 4 .int false := ⟨R_Co, F_Co, 17, "WindBrides$Coast", t_Co, rfl, by decide, i_Co, z_mem 205 (by decide +kernel) rfl, Or.inl rfl, t_Co_ok, n_Co, rfl, by decide +kernel, by intro h; cases h⟩
set_option maxRecDepth 20000 in
theorem kc_Co_addWind : kC M_Co_addWind 4 := ⟨z_mem 457 (by rfl) rfl, z_mem 102 (by decide +kernel) rfl, ⟨by decide, by decide⟩, by decide +kernel, by decide⟩
theorem k_Wb_113 : kV "WindBrides" 113 3 M_Co_addWind 4 := ⟨kc_Co_addWind, _, _, _, rfl, z_mem 455 (by decide +kernel) rfl, z_mem 456 (by decide +kernel) rfl, z_mem 454 (by decide +kernel) rfl⟩
theorem f_Co_69_3 : zF "WindBrides$Coast" 69 3 4 .int false := ⟨R_Co, F_Co, 17, "WindBrides$Coast", t_Co, rfl, by decide, i_Co, z_mem 204 (by decide +kernel) rfl, Or.inl rfl, t_Co_ok, n_Co, rfl, by decide +kernel, by intro h; cases h⟩
set_option maxRecDepth 20000 in
theorem kc_Co_hasWind : kC M_Co_hasWind 1 := ⟨z_mem 465 (by rfl) rfl, z_mem 102 (by decide +kernel) rfl, ⟨by decide, by decide⟩, by decide +kernel, by decide⟩
theorem k_Wb_117 : kV "WindBrides" 117 3 M_Co_hasWind 1 := ⟨kc_Co_hasWind, _, _, _, rfl, z_mem 463 (by decide +kernel) rfl, z_mem 464 (by decide +kernel) rfl, z_mem 462 (by decide +kernel) rfl⟩
theorem f_Wb_120_3 : zFr "WindBrides" 120 3 5 := ⟨R_Co, F_Co, 17, "WindBrides$Coast", rfl, by decide, i_Co, z_mem 208 (by decide +kernel) rfl, Or.inl rfl⟩
theorem f_Wb_123_3 : zFr "WindBrides" 123 3 6 := ⟨R_Co, F_Co, 17, "WindBrides$Coast", rfl, by decide, i_Co, z_mem 210 (by decide +kernel) rfl, Or.inl rfl⟩
theorem f_Wb_126_3 : zFr "WindBrides" 126 3 7 := ⟨R_Co, F_Co, 17, "WindBrides$Coast", rfl, by decide, i_Co, z_mem 212 (by decide +kernel) rfl, Or.inl rfl⟩
theorem f_Wb_129_3 : zFr "WindBrides" 129 3 8 := ⟨R_Co, F_Co, 17, "WindBrides$Coast", rfl, by decide, i_Co, z_mem 214 (by decide +kernel) rfl, Or.inl rfl⟩
set_option maxRecDepth 20000 in
theorem kc_Cr_bridesOf : kC M_Cr_bridesOf 2 := ⟨z_mem 469 (by rfl) rfl, z_mem 103 (by decide +kernel) rfl, ⟨by decide, by decide⟩, by decide +kernel, by decide⟩
theorem k_Wb_132 : kV "WindBrides" 132 4 M_Cr_bridesOf 2 := ⟨kc_Cr_bridesOf, _, _, _, rfl, z_mem 467 (by decide +kernel) rfl, z_mem 468 (by decide +kernel) rfl, z_mem 466 (by decide +kernel) rfl⟩
theorem f_Wb_135_4 : zF "WindBrides" 135 4 0 .int false := ⟨R_Cr, F_Cr, 5, "WindBrides$Course", t_Cr, rfl, by decide, i_Cr, z_mem 143 (by decide +kernel) rfl, Or.inl rfl, t_Cr_ok, n_Cr, rfl, by decide +kernel, by intro h; cases h⟩
set_option maxRecDepth 20000 in
theorem kc_Co_blows : kC M_Co_blows 2 := ⟨z_mem 473 (by rfl) rfl, z_mem 102 (by decide +kernel) rfl, ⟨by decide, by decide⟩, by decide +kernel, by decide⟩
theorem k_Wb_138 : kV "WindBrides" 138 3 M_Co_blows 2 := ⟨kc_Co_blows, _, _, _, rfl, z_mem 471 (by decide +kernel) rfl, z_mem 472 (by decide +kernel) rfl, z_mem 470 (by decide +kernel) rfl⟩
theorem f_Cr_41_3 : zF "WindBrides$Course" 41 3 0 .int false := ⟨R_Co, F_Co, 17, "WindBrides$Coast", t_Co, rfl, by decide, i_Co, z_mem 192 (by decide +kernel) rfl, Or.inl rfl, t_Co_ok, n_Co, rfl, by decide +kernel, by intro h; cases h⟩
theorem k_Wb_142 : kV "WindBrides" 142 4 M_Cr_promiseTo 3 := ⟨kc_Cr_promiseTo, _, _, _, rfl, z_mem 410 (by decide +kernel) rfl, z_mem 411 (by decide +kernel) rfl, z_mem 478 (by decide +kernel) rfl⟩
set_option maxRecDepth 20000 in
theorem kc_Co_gainBy : kC M_Co_gainBy 3 := ⟨z_mem 486 (by rfl) rfl, z_mem 102 (by decide +kernel) rfl, ⟨by decide, by decide⟩, by decide +kernel, by decide⟩
theorem k_Wb_146 : kV "WindBrides" 146 3 M_Co_gainBy 3 := ⟨kc_Co_gainBy, _, _, _, rfl, z_mem 484 (by decide +kernel) rfl, z_mem 485 (by decide +kernel) rfl, z_mem 483 (by decide +kernel) rfl⟩
set_option maxRecDepth 20000 in
theorem kc_Wb_turnBetween : kC M_Wb_turnBetween 2 := ⟨z_mem 489 (by rfl) rfl, z_mem 101 (by decide +kernel) rfl, ⟨by decide, by decide⟩, by decide +kernel, by decide⟩
theorem k_Co_92 : kS "WindBrides$Coast" 92 M_Wb_turnBetween 2 := ⟨kc_Wb_turnBetween, z_mem 488 (by decide +kernel) rfl, Or.inr ⟨"WindBrides", z_memN 487 (by decide +kernel) rfl⟩⟩
set_option maxRecDepth 20000 in
theorem kc_Wb_gainOf : kC M_Wb_gainOf 4 := ⟨z_mem 492 (by rfl) rfl, z_mem 101 (by decide +kernel) rfl, ⟨by decide, by decide⟩, by decide +kernel, by decide⟩
theorem k_Co_96 : kS "WindBrides$Coast" 96 M_Wb_gainOf 4 := ⟨kc_Wb_gainOf, z_mem 491 (by decide +kernel) rfl, Or.inr ⟨"WindBrides", z_memN 490 (by decide +kernel) rfl⟩⟩
theorem f_Wb_149_3 : zF "WindBrides" 149 3 9 .int false := ⟨R_Co, F_Co, 17, "WindBrides$Coast", t_Co, rfl, by decide, i_Co, z_mem 217 (by decide +kernel) rfl, Or.inl rfl, t_Co_ok, n_Co, rfl, by decide +kernel, by intro h; cases h⟩
theorem f_Wb_152_3 : zF "WindBrides" 152 3 10 .int false := ⟨R_Co, F_Co, 17, "WindBrides$Coast", t_Co, rfl, by decide, i_Co, z_mem 219 (by decide +kernel) rfl, Or.inl rfl, t_Co_ok, n_Co, rfl, by decide +kernel, by intro h; cases h⟩
set_option maxRecDepth 20000 in
theorem kc_Co_isOver : kC M_Co_isOver 0 := ⟨z_mem 508 (by rfl) rfl, z_mem 102 (by decide +kernel) rfl, ⟨by decide, by decide⟩, by decide +kernel, by decide⟩
theorem k_Wb_155 : kV "WindBrides" 155 3 M_Co_isOver 0 := ⟨kc_Co_isOver, _, _, _, rfl, z_mem 506 (by decide +kernel) rfl, z_mem 507 (by decide +kernel) rfl, z_mem 505 (by decide +kernel) rfl⟩
theorem f_Co_85_4 : zF "WindBrides$Coast" 85 4 0 .int false := ⟨R_Cr, F_Cr, 5, "WindBrides$Course", t_Cr, rfl, by decide, i_Cr, z_mem 142 (by decide +kernel) rfl, Or.inl rfl, t_Cr_ok, n_Cr, rfl, by decide +kernel, by intro h; cases h⟩
set_option maxRecDepth 20000 in
theorem kc_Ta_hasRoomFor : kC M_Ta_hasRoomFor 1 := ⟨z_mem 516 (by rfl) rfl, z_mem 105 (by decide +kernel) rfl, ⟨by decide, by decide⟩, by decide +kernel, by decide⟩
theorem k_Wb_159 : kV "WindBrides" 159 9 M_Ta_hasRoomFor 1 := ⟨kc_Ta_hasRoomFor, _, _, _, rfl, z_mem 514 (by decide +kernel) rfl, z_mem 515 (by decide +kernel) rfl, z_mem 513 (by decide +kernel) rfl⟩
set_option maxRecDepth 20000 in
theorem kc_Ta_takes : kC M_Ta_takes 2 := ⟨z_mem 520 (by rfl) rfl, z_mem 105 (by decide +kernel) rfl, ⟨by decide, by decide⟩, by decide +kernel, by decide⟩
theorem k_Wb_162 : kV "WindBrides" 162 9 M_Ta_takes 2 := ⟨kc_Ta_takes, _, _, _, rfl, z_mem 518 (by decide +kernel) rfl, z_mem 519 (by decide +kernel) rfl, z_mem 517 (by decide +kernel) rfl⟩
theorem f_Ta_21_9 : zF "WindBrides$Tape" 21 9 0 .int false := ⟨R_Ta, F_Ta, 5, "WindBrides$Tape", t_Ta, rfl, by decide, i_Ta, z_mem 275 (by decide +kernel) rfl, Or.inl rfl, t_Ta_ok, n_Ta, rfl, by decide +kernel, by intro h; cases h⟩
set_option maxRecDepth 20000 in
theorem kc_Ta_readInto : kC M_Ta_readInto 1 := ⟨z_mem 528 (by rfl) rfl, z_mem 105 (by decide +kernel) rfl, ⟨by decide, by decide⟩, by decide +kernel, by decide⟩
theorem k_Wb_166 : kV "WindBrides" 166 9 M_Ta_readInto 1 := ⟨kc_Ta_readInto, _, _, _, rfl, z_mem 526 (by decide +kernel) rfl, z_mem 527 (by decide +kernel) rfl, z_mem 525 (by decide +kernel) rfl⟩
theorem f_Wb_170_3 : zFr "WindBrides" 170 3 13 := ⟨R_Co, F_Co, 17, "WindBrides$Coast", rfl, by decide, i_Co, z_mem 227 (by decide +kernel) rfl, Or.inl rfl⟩
set_option maxRecDepth 20000 in
theorem kc_Bk_copyFrom : kC M_Bk_copyFrom 1 := ⟨z_mem 639 (by rfl) rfl, z_mem 104 (by decide +kernel) rfl, ⟨by decide, by decide⟩, by decide +kernel, by decide⟩
theorem k_Wb_173 : kV "WindBrides" 173 0 M_Bk_copyFrom 1 := ⟨kc_Bk_copyFrom, _, _, _, rfl, z_mem 637 (by decide +kernel) rfl, z_mem 638 (by decide +kernel) rfl, z_mem 636 (by decide +kernel) rfl⟩
set_option maxRecDepth 20000 in
theorem kc_Ta_split : kC M_Ta_split 0 := ⟨z_mem 532 (by rfl) rfl, z_mem 105 (by decide +kernel) rfl, ⟨by decide, by decide⟩, by decide +kernel, by decide⟩
theorem k_Ta_25 : kV "WindBrides$Tape" 25 9 M_Ta_split 0 := ⟨kc_Ta_split, _, _, _, rfl, z_mem 531 (by decide +kernel) rfl, z_mem 2 (by decide +kernel) rfl, z_mem 529 (by decide +kernel) rfl⟩
theorem f_Ta_28_9 : zF "WindBrides$Tape" 28 9 4 .int false := ⟨R_Ta, F_Ta, 5, "WindBrides$Tape", t_Ta, rfl, by decide, i_Ta, z_mem 280 (by decide +kernel) rfl, Or.inl rfl, t_Ta_ok, n_Ta, rfl, by decide +kernel, by intro h; cases h⟩
set_option maxRecDepth 20000 in
theorem kc_Bk_clear : kC M_Bk_clear 0 := ⟨z_mem 603 (by rfl) rfl, z_mem 104 (by decide +kernel) rfl, ⟨by decide, by decide⟩, by decide +kernel, by decide⟩
theorem k_Ta_31 : kV "WindBrides$Tape" 31 0 M_Bk_clear 0 := ⟨kc_Bk_clear, _, _, _, rfl, z_mem 601 (by decide +kernel) rfl, z_mem 602 (by decide +kernel) rfl, z_mem 600 (by decide +kernel) rfl⟩
set_option maxRecDepth 20000 in
theorem kc_Ta_readRule : kC M_Ta_readRule 1 := ⟨z_mem 607 (by rfl) rfl, z_mem 105 (by decide +kernel) rfl, ⟨by decide, by decide⟩, by decide +kernel, by decide⟩
theorem k_Ta_36 : kV "WindBrides$Tape" 36 9 M_Ta_readRule 1 := ⟨kc_Ta_readRule, _, _, _, rfl, z_mem 606 (by decide +kernel) rfl, z_mem 8 (by decide +kernel) rfl, z_mem 604 (by decide +kernel) rfl⟩
theorem f_Ta_40_0 : zF "WindBrides$Tape" 40 0 0 .int false := ⟨R_Bk, F_Bk, 6, "WindBrides$Book", t_Bk, rfl, by decide, i_Bk, z_mem 171 (by decide +kernel) rfl, Or.inl rfl, t_Bk_ok, n_Bk, rfl, by decide +kernel, by intro h; cases h⟩
set_option maxRecDepth 20000 in
theorem kc_Ta_goesOn : kC M_Ta_goesOn 1 := ⟨z_mem 536 (by rfl) rfl, z_mem 105 (by decide +kernel) rfl, ⟨by decide, by decide⟩, by decide +kernel, by decide⟩
theorem k_Ta_43 : kV "WindBrides$Tape" 43 9 M_Ta_goesOn 1 := ⟨kc_Ta_goesOn, _, _, _, rfl, z_mem 535 (by decide +kernel) rfl, z_mem 3 (by decide +kernel) rfl, z_mem 533 (by decide +kernel) rfl⟩
set_option maxRecDepth 20000 in
theorem kc_Ta_tokenOf : kC M_Ta_tokenOf 1 := ⟨z_mem 546 (by rfl) rfl, z_mem 105 (by decide +kernel) rfl, ⟨by decide, by decide⟩, by decide +kernel, by decide⟩
theorem k_Ta_47 : kV "WindBrides$Tape" 47 9 M_Ta_tokenOf 1 := ⟨kc_Ta_tokenOf, _, _, _, rfl, z_mem 545 (by decide +kernel) rfl, z_mem 4 (by decide +kernel) rfl, z_mem 543 (by decide +kernel) rfl⟩
set_option maxRecDepth 20000 in
theorem kc_Ta_isLetter : kC M_Ta_isLetter 1 := ⟨z_mem 539 (by rfl) rfl, z_mem 105 (by decide +kernel) rfl, ⟨by decide, by decide⟩, by decide +kernel, by decide⟩
theorem k_Ta_51 : kS "WindBrides$Tape" 51 M_Ta_isLetter 1 := ⟨kc_Ta_isLetter, z_mem 538 (by decide +kernel) rfl, Or.inl (z_mem 537 (by decide +kernel) rfl)⟩
set_option maxRecDepth 20000 in
theorem kc_Ta_isDigit : kC M_Ta_isDigit 1 := ⟨z_mem 542 (by rfl) rfl, z_mem 105 (by decide +kernel) rfl, ⟨by decide, by decide⟩, by decide +kernel, by decide⟩
theorem k_Ta_54 : kS "WindBrides$Tape" 54 M_Ta_isDigit 1 := ⟨kc_Ta_isDigit, z_mem 541 (by decide +kernel) rfl, Or.inl (z_mem 540 (by decide +kernel) rfl)⟩
set_option maxRecDepth 20000 in
theorem kc_Ta_wordOf : kC M_Ta_wordOf 2 := ⟨z_mem 550 (by rfl) rfl, z_mem 105 (by decide +kernel) rfl, ⟨by decide, by decide⟩, by decide +kernel, by decide⟩
theorem k_Ta_57 : kV "WindBrides$Tape" 57 9 M_Ta_wordOf 2 := ⟨kc_Ta_wordOf, _, _, _, rfl, z_mem 549 (by decide +kernel) rfl, z_mem 5 (by decide +kernel) rfl, z_mem 547 (by decide +kernel) rfl⟩
set_option maxRecDepth 20000 in
theorem kc_Ta_numberOf : kC M_Ta_numberOf 2 := ⟨z_mem 599 (by rfl) rfl, z_mem 105 (by decide +kernel) rfl, ⟨by decide, by decide⟩, by decide +kernel, by decide⟩
theorem k_Ta_61 : kV "WindBrides$Tape" 61 9 M_Ta_numberOf 2 := ⟨kc_Ta_numberOf, _, _, _, rfl, z_mem 598 (by decide +kernel) rfl, z_mem 7 (by decide +kernel) rfl, z_mem 596 (by decide +kernel) rfl⟩
set_option maxRecDepth 20000 in
theorem kc_Ta_isWord : kC M_Ta_isWord 3 := ⟨z_mem 554 (by rfl) rfl, z_mem 105 (by decide +kernel) rfl, ⟨by decide, by decide⟩, by decide +kernel, by decide⟩
theorem k_Ta_64 : kV "WindBrides$Tape" 64 9 M_Ta_isWord 3 := ⟨kc_Ta_isWord, _, _, _, rfl, z_mem 553 (by decide +kernel) rfl, z_mem 6 (by decide +kernel) rfl, z_mem 551 (by decide +kernel) rfl⟩
theorem f_Bk_30_0 : zF "WindBrides$Book" 30 0 5 .int false := ⟨R_Bk, F_Bk, 6, "WindBrides$Book", t_Bk, rfl, by decide, i_Bk, z_mem 177 (by decide +kernel) rfl, Or.inl rfl, t_Bk_ok, n_Bk, rfl, by decide +kernel, by intro h; cases h⟩
theorem k_Ta_76 : kS "WindBrides$Tape" 76 M_Wb_within 3 := ⟨kc_Wb_within, z_mem 403 (by decide +kernel) rfl, Or.inr ⟨"WindBrides", z_memN 608 (by decide +kernel) rfl⟩⟩
set_option maxRecDepth 20000 in
theorem kc_Ta_reads : kC M_Ta_reads 1 := ⟨z_mem 612 (by rfl) rfl, z_mem 105 (by decide +kernel) rfl, ⟨by decide, by decide⟩, by decide +kernel, by decide⟩
theorem k_Ta_79 : kV "WindBrides$Tape" 79 9 M_Ta_reads 1 := ⟨kc_Ta_reads, _, _, _, rfl, z_mem 611 (by decide +kernel) rfl, z_mem 9 (by decide +kernel) rfl, z_mem 609 (by decide +kernel) rfl⟩
set_option maxRecDepth 20000 in
theorem kc_Ta_readCondition : kC M_Ta_readCondition 2 := ⟨z_mem 616 (by rfl) rfl, z_mem 105 (by decide +kernel) rfl, ⟨by decide, by decide⟩, by decide +kernel, by decide⟩
theorem k_Ta_82 : kV "WindBrides$Tape" 82 9 M_Ta_readCondition 2 := ⟨kc_Ta_readCondition, _, _, _, rfl, z_mem 615 (by decide +kernel) rfl, z_mem 10 (by decide +kernel) rfl, z_mem 613 (by decide +kernel) rfl⟩
set_option maxRecDepth 20000 in
theorem kc_Bk_addRule : kC M_Bk_addRule 2 := ⟨z_mem 635 (by rfl) rfl, z_mem 104 (by decide +kernel) rfl, ⟨by decide, by decide⟩, by decide +kernel, by decide⟩
theorem k_Ta_86 : kV "WindBrides$Tape" 86 0 M_Bk_addRule 2 := ⟨kc_Bk_addRule, _, _, _, rfl, z_mem 633 (by decide +kernel) rfl, z_mem 634 (by decide +kernel) rfl, z_mem 632 (by decide +kernel) rfl⟩
set_option maxRecDepth 20000 in
theorem kc_Ta_readOne : kC M_Ta_readOne 2 := ⟨z_mem 620 (by rfl) rfl, z_mem 105 (by decide +kernel) rfl, ⟨by decide, by decide⟩, by decide +kernel, by decide⟩
theorem k_Ta_90 : kV "WindBrides$Tape" 90 9 M_Ta_readOne 2 := ⟨kc_Ta_readOne, _, _, _, rfl, z_mem 619 (by decide +kernel) rfl, z_mem 11 (by decide +kernel) rfl, z_mem 617 (by decide +kernel) rfl⟩
set_option maxRecDepth 20000 in
theorem kc_Bk_writes : kC M_Bk_writes 1 := ⟨z_mem 631 (by rfl) rfl, z_mem 104 (by decide +kernel) rfl, ⟨by decide, by decide⟩, by decide +kernel, by decide⟩
theorem k_Ta_93 : kV "WindBrides$Tape" 93 0 M_Bk_writes 1 := ⟨kc_Bk_writes, _, _, _, rfl, z_mem 629 (by decide +kernel) rfl, z_mem 630 (by decide +kernel) rfl, z_mem 628 (by decide +kernel) rfl⟩
set_option maxRecDepth 20000 in
theorem kc_Ta_readComparison : kC M_Ta_readComparison 1 := ⟨z_mem 624 (by rfl) rfl, z_mem 105 (by decide +kernel) rfl, ⟨by decide, by decide⟩, by decide +kernel, by decide⟩
theorem k_Ta_97 : kV "WindBrides$Tape" 97 9 M_Ta_readComparison 1 := ⟨kc_Ta_readComparison, _, _, _, rfl, z_mem 623 (by decide +kernel) rfl, z_mem 12 (by decide +kernel) rfl, z_mem 621 (by decide +kernel) rfl⟩
set_option maxRecDepth 20000 in
theorem kc_Ta_isValue : kC M_Ta_isValue 1 := ⟨z_mem 627 (by rfl) rfl, z_mem 105 (by decide +kernel) rfl, ⟨by decide, by decide⟩, by decide +kernel, by decide⟩
theorem k_Ta_100 : kS "WindBrides$Tape" 100 M_Ta_isValue 1 := ⟨kc_Ta_isValue, z_mem 626 (by decide +kernel) rfl, Or.inl (z_mem 625 (by decide +kernel) rfl)⟩
theorem ky_Bk_33 : Cond.methodLink "WindBrides$Book" 33 arraycopyName ∈ zT := z_mem 640 (by decide +kernel) rfl
set_option maxRecDepth 20000 in
theorem kc_Wb_passMonth : kC M_Wb_passMonth 1 := ⟨z_mem 651 (by rfl) rfl, z_mem 101 (by decide +kernel) rfl, ⟨by decide, by decide⟩, by decide +kernel, by decide⟩
theorem k_Wb_177 : kV "WindBrides" 177 11 M_Wb_passMonth 1 := ⟨kc_Wb_passMonth, _, _, _, rfl, z_mem 650 (by decide +kernel) rfl, z_mem 13 (by decide +kernel) rfl, z_mem 648 (by decide +kernel) rfl⟩
set_option maxRecDepth 20000 in
theorem kc_Cr_passes : kC M_Cr_passes 2 := ⟨z_mem 655 (by rfl) rfl, z_mem 103 (by decide +kernel) rfl, ⟨by decide, by decide⟩, by decide +kernel, by decide⟩
theorem k_Wb_181 : kV "WindBrides" 181 4 M_Cr_passes 2 := ⟨kc_Cr_passes, _, _, _, rfl, z_mem 653 (by decide +kernel) rfl, z_mem 654 (by decide +kernel) rfl, z_mem 652 (by decide +kernel) rfl⟩
theorem f_Cr_27_4 : zF "WindBrides$Course" 27 4 3 .int false := ⟨R_Cr, F_Cr, 5, "WindBrides$Course", t_Cr, rfl, by decide, i_Cr, z_mem 149 (by decide +kernel) rfl, Or.inl rfl, t_Cr_ok, n_Cr, rfl, by decide +kernel, by intro h; cases h⟩
theorem k_Cr_60 : kV "WindBrides$Course" 60 3 M_Co_blows 2 := ⟨kc_Co_blows, _, _, _, rfl, z_mem 471 (by decide +kernel) rfl, z_mem 472 (by decide +kernel) rfl, z_mem 656 (by decide +kernel) rfl⟩
theorem k_Cr_64 : kV "WindBrides$Course" 64 4 M_Cr_doesInCalm 2 := ⟨kc_Cr_doesInCalm, _, _, _, rfl, z_mem 422 (by decide +kernel) rfl, z_mem 423 (by decide +kernel) rfl, z_mem 657 (by decide +kernel) rfl⟩
set_option maxRecDepth 20000 in
theorem kc_Cr_meetsCalm : kC M_Cr_meetsCalm 3 := ⟨z_mem 661 (by rfl) rfl, z_mem 103 (by decide +kernel) rfl, ⟨by decide, by decide⟩, by decide +kernel, by decide⟩
theorem k_Cr_68 : kV "WindBrides$Course" 68 4 M_Cr_meetsCalm 3 := ⟨kc_Cr_meetsCalm, _, _, _, rfl, z_mem 660 (by decide +kernel) rfl, z_mem 14 (by decide +kernel) rfl, z_mem 658 (by decide +kernel) rfl⟩
theorem k_Cr_72 : kV "WindBrides$Course" 72 3 M_Co_gainBy 3 := ⟨kc_Co_gainBy, _, _, _, rfl, z_mem 484 (by decide +kernel) rfl, z_mem 485 (by decide +kernel) rfl, z_mem 671 (by decide +kernel) rfl⟩
set_option maxRecDepth 20000 in
theorem kc_Cr_wearsOut : kC M_Cr_wearsOut 2 := ⟨z_mem 675 (by rfl) rfl, z_mem 103 (by decide +kernel) rfl, ⟨by decide, by decide⟩, by decide +kernel, by decide⟩
theorem k_Cr_76 : kV "WindBrides$Course" 76 4 M_Cr_wearsOut 2 := ⟨kc_Cr_wearsOut, _, _, _, rfl, z_mem 674 (by decide +kernel) rfl, z_mem 17 (by decide +kernel) rfl, z_mem 672 (by decide +kernel) rfl⟩
theorem k_Cr_80 : kV "WindBrides$Course" 80 4 M_Cr_promiseTo 3 := ⟨kc_Cr_promiseTo, _, _, _, rfl, z_mem 410 (by decide +kernel) rfl, z_mem 411 (by decide +kernel) rfl, z_mem 662 (by decide +kernel) rfl⟩
set_option maxRecDepth 20000 in
theorem kc_Cr_freeWindFor : kC M_Cr_freeWindFor 2 := ⟨z_mem 666 (by rfl) rfl, z_mem 103 (by decide +kernel) rfl, ⟨by decide, by decide⟩, by decide +kernel, by decide⟩
theorem k_Cr_83 : kV "WindBrides$Course" 83 4 M_Cr_freeWindFor 2 := ⟨kc_Cr_freeWindFor, _, _, _, rfl, z_mem 665 (by decide +kernel) rfl, z_mem 15 (by decide +kernel) rfl, z_mem 663 (by decide +kernel) rfl⟩
set_option maxRecDepth 20000 in
theorem kc_Cr_windsWithBrides : kC M_Cr_windsWithBrides 1 := ⟨z_mem 670 (by rfl) rfl, z_mem 103 (by decide +kernel) rfl, ⟨by decide, by decide⟩, by decide +kernel, by decide⟩
theorem k_Cr_86 : kV "WindBrides$Course" 86 4 M_Cr_windsWithBrides 1 := ⟨kc_Cr_windsWithBrides, _, _, _, rfl, z_mem 669 (by decide +kernel) rfl, z_mem 16 (by decide +kernel) rfl, z_mem 667 (by decide +kernel) rfl⟩
theorem f_Cr_90_3 : zF "WindBrides$Course" 90 3 4 .int false := ⟨R_Co, F_Co, 17, "WindBrides$Coast", t_Co, rfl, by decide, i_Co, z_mem 206 (by decide +kernel) rfl, Or.inl rfl, t_Co_ok, n_Co, rfl, by decide +kernel, by intro h; cases h⟩
set_option maxRecDepth 20000 in
theorem kc_Cr_copyFrom : kC M_Cr_copyFrom 1 := ⟨z_mem 683 (by rfl) rfl, z_mem 103 (by decide +kernel) rfl, ⟨by decide, by decide⟩, by decide +kernel, by decide⟩
theorem k_Wb_184 : kV "WindBrides" 184 4 M_Cr_copyFrom 1 := ⟨kc_Cr_copyFrom, _, _, _, rfl, z_mem 681 (by decide +kernel) rfl, z_mem 682 (by decide +kernel) rfl, z_mem 680 (by decide +kernel) rfl⟩
theorem ky_Cr_30 : Cond.methodLink "WindBrides$Course" 30 arraycopyName ∈ zT := z_mem 684 (by decide +kernel) rfl
theorem f_Wb_187_4 : zF "WindBrides" 187 4 3 .int false := ⟨R_Cr, F_Cr, 5, "WindBrides$Course", t_Cr, rfl, by decide, i_Cr, z_mem 150 (by decide +kernel) rfl, Or.inl rfl, t_Cr_ok, n_Cr, rfl, by decide +kernel, by intro h; cases h⟩
set_option maxRecDepth 20000 in
theorem kc_Wb_trialRest : kC M_Wb_trialRest 0 := ⟨z_mem 700 (by rfl) rfl, z_mem 101 (by decide +kernel) rfl, ⟨by decide, by decide⟩, by decide +kernel, by decide⟩
theorem k_Wb_190 : kV "WindBrides" 190 11 M_Wb_trialRest 0 := ⟨kc_Wb_trialRest, _, _, _, rfl, z_mem 699 (by decide +kernel) rfl, z_mem 18 (by decide +kernel) rfl, z_mem 697 (by decide +kernel) rfl⟩
set_option maxRecDepth 20000 in
theorem kc_Co_pairLeaves : kC M_Co_pairLeaves 2 := ⟨z_mem 712 (by rfl) rfl, z_mem 102 (by decide +kernel) rfl, ⟨by decide, by decide⟩, by decide +kernel, by decide⟩
theorem k_Wb_194 : kV "WindBrides" 194 3 M_Co_pairLeaves 2 := ⟨kc_Co_pairLeaves, _, _, _, rfl, z_mem 710 (by decide +kernel) rfl, z_mem 711 (by decide +kernel) rfl, z_mem 709 (by decide +kernel) rfl⟩
theorem f_Co_109_4 : zFr "WindBrides$Coast" 109 4 1 := ⟨R_Cr, F_Cr, 5, "WindBrides$Course", rfl, by decide, i_Cr, z_mem 146 (by decide +kernel) rfl, Or.inl rfl⟩
set_option maxRecDepth 20000 in
theorem kc_Co_girlLikes : kC M_Co_girlLikes 3 := ⟨z_mem 716 (by rfl) rfl, z_mem 102 (by decide +kernel) rfl, ⟨by decide, by decide⟩, by decide +kernel, by decide⟩
theorem k_Co_112 : kV "WindBrides$Coast" 112 3 M_Co_girlLikes 3 := ⟨kc_Co_girlLikes, _, _, _, rfl, z_mem 715 (by decide +kernel) rfl, z_mem 19 (by decide +kernel) rfl, z_mem 713 (by decide +kernel) rfl⟩
set_option maxRecDepth 20000 in
theorem kc_Co_windLikes : kC M_Co_windLikes 3 := ⟨z_mem 725 (by rfl) rfl, z_mem 102 (by decide +kernel) rfl, ⟨by decide, by decide⟩, by decide +kernel, by decide⟩
theorem k_Co_116 : kV "WindBrides$Coast" 116 3 M_Co_windLikes 3 := ⟨kc_Co_windLikes, _, _, _, rfl, z_mem 724 (by decide +kernel) rfl, z_mem 21 (by decide +kernel) rfl, z_mem 722 (by decide +kernel) rfl⟩
set_option maxRecDepth 20000 in
theorem kc_Co_heldMonth : kC M_Co_heldMonth 0 := ⟨z_mem 720 (by rfl) rfl, z_mem 102 (by decide +kernel) rfl, ⟨by decide, by decide⟩, by decide +kernel, by decide⟩
theorem k_Co_101 : kV "WindBrides$Coast" 101 3 M_Co_heldMonth 0 := ⟨kc_Co_heldMonth, _, _, _, rfl, z_mem 719 (by decide +kernel) rfl, z_mem 20 (by decide +kernel) rfl, z_mem 717 (by decide +kernel) rfl⟩
theorem k_Co_105 : kV "WindBrides$Coast" 105 3 M_Co_gainBy 3 := ⟨kc_Co_gainBy, _, _, _, rfl, z_mem 484 (by decide +kernel) rfl, z_mem 485 (by decide +kernel) rfl, z_mem 721 (by decide +kernel) rfl⟩
set_option maxRecDepth 20000 in
theorem kc_Co_keptWind : kC M_Co_keptWind 1 := ⟨z_mem 737 (by rfl) rfl, z_mem 102 (by decide +kernel) rfl, ⟨by decide, by decide⟩, by decide +kernel, by decide⟩
theorem k_Wb_197 : kV "WindBrides" 197 3 M_Co_keptWind 1 := ⟨kc_Co_keptWind, _, _, _, rfl, z_mem 735 (by decide +kernel) rfl, z_mem 736 (by decide +kernel) rfl, z_mem 734 (by decide +kernel) rfl⟩
set_option maxRecDepth 20000 in
theorem kc_Co_nextLiked : kC M_Co_nextLiked 2 := ⟨z_mem 741 (by rfl) rfl, z_mem 102 (by decide +kernel) rfl, ⟨by decide, by decide⟩, by decide +kernel, by decide⟩
theorem k_Co_119 : kV "WindBrides$Coast" 119 3 M_Co_nextLiked 2 := ⟨kc_Co_nextLiked, _, _, _, rfl, z_mem 740 (by decide +kernel) rfl, z_mem 22 (by decide +kernel) rfl, z_mem 738 (by decide +kernel) rfl⟩
set_option maxRecDepth 20000 in
theorem kc_Co_refusedGirl : kC M_Co_refusedGirl 0 := ⟨z_mem 745 (by rfl) rfl, z_mem 102 (by decide +kernel) rfl, ⟨by decide, by decide⟩, by decide +kernel, by decide⟩
theorem k_Co_122 : kV "WindBrides$Coast" 122 3 M_Co_refusedGirl 0 := ⟨kc_Co_refusedGirl, _, _, _, rfl, z_mem 744 (by decide +kernel) rfl, z_mem 23 (by decide +kernel) rfl, z_mem 742 (by decide +kernel) rfl⟩
set_option maxRecDepth 20000 in
theorem kc_Co_ringOf : kC M_Co_ringOf 1 := ⟨z_mem 753 (by rfl) rfl, z_mem 102 (by decide +kernel) rfl, ⟨by decide, by decide⟩, by decide +kernel, by decide⟩
theorem k_Wb_200 : kV "WindBrides" 200 3 M_Co_ringOf 1 := ⟨kc_Co_ringOf, _, _, _, rfl, z_mem 751 (by decide +kernel) rfl, z_mem 752 (by decide +kernel) rfl, z_mem 750 (by decide +kernel) rfl⟩
set_option maxRecDepth 20000 in
theorem kc_Co_envied : kC M_Co_envied 1 := ⟨z_mem 757 (by rfl) rfl, z_mem 102 (by decide +kernel) rfl, ⟨by decide, by decide⟩, by decide +kernel, by decide⟩
theorem k_Co_125 : kV "WindBrides$Coast" 125 3 M_Co_envied 1 := ⟨kc_Co_envied, _, _, _, rfl, z_mem 756 (by decide +kernel) rfl, z_mem 24 (by decide +kernel) rfl, z_mem 754 (by decide +kernel) rfl⟩
set_option maxRecDepth 20000 in
theorem kc_Wb_isPlanLength : kC M_Wb_isPlanLength 1 := ⟨z_mem 764 (by rfl) rfl, z_mem 101 (by decide +kernel) rfl, ⟨by decide, by decide⟩, by decide +kernel, by decide⟩
theorem k_Wb_203 : kS "WindBrides" 203 M_Wb_isPlanLength 1 := ⟨kc_Wb_isPlanLength, z_mem 763 (by decide +kernel) rfl, Or.inl (z_mem 762 (by decide +kernel) rfl)⟩
set_option maxRecDepth 20000 in
theorem kc_Pl_search : kC M_Pl_search 3 := ⟨z_mem 768 (by rfl) rfl, z_mem 106 (by decide +kernel) rfl, ⟨by decide, by decide⟩, by decide +kernel, by decide⟩
theorem k_Wb_206 : kV "WindBrides" 206 7 M_Pl_search 3 := ⟨kc_Pl_search, _, _, _, rfl, z_mem 766 (by decide +kernel) rfl, z_mem 767 (by decide +kernel) rfl, z_mem 765 (by decide +kernel) rfl⟩
theorem f_Wb_209_7 : zF "WindBrides" 209 7 1 .int false := ⟨R_Pl, F_Pl, 13, "WindBrides$Plans", t_Pl, rfl, by decide, i_Pl, z_mem 306 (by decide +kernel) rfl, Or.inl rfl, t_Pl_ok, n_Pl, rfl, by decide +kernel, by intro h; cases h⟩
set_option maxRecDepth 20000 in
theorem kc_Pl_begin : kC M_Pl_begin 2 := ⟨z_mem 772 (by rfl) rfl, z_mem 106 (by decide +kernel) rfl, ⟨by decide, by decide⟩, by decide +kernel, by decide⟩
theorem k_Pl_52 : kV "WindBrides$Plans" 52 7 M_Pl_begin 2 := ⟨kc_Pl_begin, _, _, _, rfl, z_mem 771 (by decide +kernel) rfl, z_mem 25 (by decide +kernel) rfl, z_mem 769 (by decide +kernel) rfl⟩
theorem f_Pl_56_7 : zF "WindBrides$Plans" 56 7 10 .int false := ⟨R_Pl, F_Pl, 13, "WindBrides$Plans", t_Pl, rfl, by decide, i_Pl, z_mem 322 (by decide +kernel) rfl, Or.inl rfl, t_Pl_ok, n_Pl, rfl, by decide +kernel, by intro h; cases h⟩
theorem f_Pl_59_7 : zF "WindBrides$Plans" 59 7 1 .int false := ⟨R_Pl, F_Pl, 13, "WindBrides$Plans", t_Pl, rfl, by decide, i_Pl, z_mem 305 (by decide +kernel) rfl, Or.inl rfl, t_Pl_ok, n_Pl, rfl, by decide +kernel, by intro h; cases h⟩
theorem f_Pl_62_7 : zF "WindBrides$Plans" 62 7 4 .int false := ⟨R_Pl, F_Pl, 13, "WindBrides$Plans", t_Pl, rfl, by decide, i_Pl, z_mem 311 (by decide +kernel) rfl, Or.inl rfl, t_Pl_ok, n_Pl, rfl, by decide +kernel, by intro h; cases h⟩
theorem f_Pl_65_7 : zF "WindBrides$Plans" 65 7 5 .int false := ⟨R_Pl, F_Pl, 13, "WindBrides$Plans", t_Pl, rfl, by decide, i_Pl, z_mem 313 (by decide +kernel) rfl, Or.inl rfl, t_Pl_ok, n_Pl, rfl, by decide +kernel, by intro h; cases h⟩
set_option maxRecDepth 20000 in
theorem kc_Pl_tryActs : kC M_Pl_tryActs 3 := ⟨z_mem 777 (by rfl) rfl, z_mem 106 (by decide +kernel) rfl, ⟨by decide, by decide⟩, by decide +kernel, by decide⟩
theorem k_Pl_68 : kV "WindBrides$Plans" 68 7 M_Pl_tryActs 3 := ⟨kc_Pl_tryActs, _, _, _, rfl, z_mem 776 (by decide +kernel) rfl, z_mem 26 (by decide +kernel) rfl, z_mem 774 (by decide +kernel) rfl⟩
theorem f_Pl_28_7 : zF "WindBrides$Plans" 28 7 9 (.object "WindBrides$Coast") false := ⟨R_Pl, F_Pl, 13, "WindBrides$Plans", t_Pl, rfl, by decide, i_Pl, z_mem 321 (by decide +kernel) rfl, Or.inl rfl, t_Pl_ok, n_Pl, rfl, by decide +kernel, by intro h; cases h⟩
theorem f_Pl_32_3 : zF "WindBrides$Plans" 32 3 9 .int false := ⟨R_Co, F_Co, 17, "WindBrides$Coast", t_Co, rfl, by decide, i_Co, z_mem 216 (by decide +kernel) rfl, Or.inl rfl, t_Co_ok, n_Co, rfl, by decide +kernel, by intro h; cases h⟩
theorem f_Pl_38_3 : zFr "WindBrides$Plans" 38 3 12 := ⟨R_Co, F_Co, 17, "WindBrides$Coast", rfl, by decide, i_Co, z_mem 223 (by decide +kernel) rfl, Or.inl rfl⟩
theorem f_Pl_42_4 : zF "WindBrides$Plans" 42 4 0 .int false := ⟨R_Cr, F_Cr, 5, "WindBrides$Course", t_Cr, rfl, by decide, i_Cr, z_mem 141 (by decide +kernel) rfl, Or.inl rfl, t_Cr_ok, n_Cr, rfl, by decide +kernel, by intro h; cases h⟩
theorem f_Pl_45_7 : zF "WindBrides$Plans" 45 7 0 .int false := ⟨R_Pl, F_Pl, 13, "WindBrides$Plans", t_Pl, rfl, by decide, i_Pl, z_mem 303 (by decide +kernel) rfl, Or.inl rfl, t_Pl_ok, n_Pl, rfl, by decide +kernel, by intro h; cases h⟩
theorem k_Pl_48 : kV "WindBrides$Plans" 48 4 M_Cr_copyFrom 1 := ⟨kc_Cr_copyFrom, _, _, _, rfl, z_mem 681 (by decide +kernel) rfl, z_mem 682 (by decide +kernel) rfl, z_mem 773 (by decide +kernel) rfl⟩
set_option maxRecDepth 20000 in
theorem kc_Pl_weigh : kC M_Pl_weigh 2 := ⟨z_mem 781 (by rfl) rfl, z_mem 106 (by decide +kernel) rfl, ⟨by decide, by decide⟩, by decide +kernel, by decide⟩
theorem k_Pl_72 : kV "WindBrides$Plans" 72 7 M_Pl_weigh 2 := ⟨kc_Pl_weigh, _, _, _, rfl, z_mem 780 (by decide +kernel) rfl, z_mem 27 (by decide +kernel) rfl, z_mem 778 (by decide +kernel) rfl⟩
theorem f_Pl_76_3 : zF "WindBrides$Plans" 76 3 0 .int false := ⟨R_Co, F_Co, 17, "WindBrides$Coast", t_Co, rfl, by decide, i_Co, z_mem 193 (by decide +kernel) rfl, Or.inl rfl, t_Co_ok, n_Co, rfl, by decide +kernel, by intro h; cases h⟩
theorem k_Pl_79 : kV "WindBrides$Plans" 79 4 M_Cr_passes 2 := ⟨kc_Cr_passes, _, _, _, rfl, z_mem 653 (by decide +kernel) rfl, z_mem 654 (by decide +kernel) rfl, z_mem 787 (by decide +kernel) rfl⟩
theorem f_Pl_83_7 : zF "WindBrides$Plans" 83 7 2 .int false := ⟨R_Pl, F_Pl, 13, "WindBrides$Plans", t_Pl, rfl, by decide, i_Pl, z_mem 307 (by decide +kernel) rfl, Or.inl rfl, t_Pl_ok, n_Pl, rfl, by decide +kernel, by intro h; cases h⟩
theorem ky_Pl_86 : Cond.methodLink "WindBrides$Plans" 86 arraycopyName ∈ zT := z_mem 782 (by decide +kernel) rfl
set_option maxRecDepth 20000 in
theorem kc_Cr_promisedSet : kC M_Cr_promisedSet 1 := ⟨z_mem 786 (by rfl) rfl, z_mem 103 (by decide +kernel) rfl, ⟨by decide, by decide⟩, by decide +kernel, by decide⟩
theorem k_Pl_92 : kV "WindBrides$Plans" 92 4 M_Cr_promisedSet 1 := ⟨kc_Cr_promisedSet, _, _, _, rfl, z_mem 784 (by decide +kernel) rfl, z_mem 785 (by decide +kernel) rfl, z_mem 783 (by decide +kernel) rfl⟩
theorem f_Wb_212_7 : zF "WindBrides" 212 7 0 .int false := ⟨R_Pl, F_Pl, 13, "WindBrides$Plans", t_Pl, rfl, by decide, i_Pl, z_mem 304 (by decide +kernel) rfl, Or.inl rfl, t_Pl_ok, n_Pl, rfl, by decide +kernel, by intro h; cases h⟩
theorem f_Wb_215_7 : zFr "WindBrides" 215 7 3 := ⟨R_Pl, F_Pl, 13, "WindBrides$Plans", rfl, by decide, i_Pl, z_mem 310 (by decide +kernel) rfl, Or.inl rfl⟩
theorem f_Wb_218_7 : zF "WindBrides" 218 7 2 .int false := ⟨R_Pl, F_Pl, 13, "WindBrides$Plans", t_Pl, rfl, by decide, i_Pl, z_mem 308 (by decide +kernel) rfl, Or.inl rfl, t_Pl_ok, n_Pl, rfl, by decide +kernel, by intro h; cases h⟩
set_option maxRecDepth 20000 in
theorem kc_Wb_isSetOfGirls : kC M_Wb_isSetOfGirls 1 := ⟨z_mem 803 (by rfl) rfl, z_mem 101 (by decide +kernel) rfl, ⟨by decide, by decide⟩, by decide +kernel, by decide⟩
theorem k_Wb_221 : kV "WindBrides" 221 11 M_Wb_isSetOfGirls 1 := ⟨kc_Wb_isSetOfGirls, _, _, _, rfl, z_mem 802 (by decide +kernel) rfl, z_mem 28 (by decide +kernel) rfl, z_mem 800 (by decide +kernel) rfl⟩
theorem f_Wb_224_7 : zF "WindBrides" 224 7 4 .int false := ⟨R_Pl, F_Pl, 13, "WindBrides$Plans", t_Pl, rfl, by decide, i_Pl, z_mem 312 (by decide +kernel) rfl, Or.inl rfl, t_Pl_ok, n_Pl, rfl, by decide +kernel, by intro h; cases h⟩
theorem f_Wb_227_7 : zF "WindBrides" 227 7 5 .int false := ⟨R_Pl, F_Pl, 13, "WindBrides$Plans", t_Pl, rfl, by decide, i_Pl, z_mem 314 (by decide +kernel) rfl, Or.inl rfl, t_Pl_ok, n_Pl, rfl, by decide +kernel, by intro h; cases h⟩
set_option maxRecDepth 20000 in
theorem kc_Ji_numberOfTrailingZeros : kC M_Ji_numberOfTrailingZeros 1 := ⟨z_mem 810 (by rfl) rfl, z_mem 113 (by decide +kernel) rfl, ⟨by decide, by decide⟩, by decide +kernel, by decide⟩
theorem k_Wb_230 : kS "WindBrides" 230 M_Ji_numberOfTrailingZeros 1 := ⟨kc_Ji_numberOfTrailingZeros, z_mem 809 (by decide +kernel) rfl, Or.inl (z_mem 808 (by decide +kernel) rfl)⟩
theorem l_Ji_264 : Cond.constant "java/lang/Integer" 264 65536 ∈ zT := z_mem 811 (by decide +kernel) rfl
set_option maxRecDepth 20000 in
theorem kc_Pl_gameFrom : kC M_Pl_gameFrom 2 := ⟨z_mem 819 (by rfl) rfl, z_mem 106 (by decide +kernel) rfl, ⟨by decide, by decide⟩, by decide +kernel, by decide⟩
theorem k_Wb_235 : kV "WindBrides" 235 7 M_Pl_gameFrom 2 := ⟨kc_Pl_gameFrom, _, _, _, rfl, z_mem 817 (by decide +kernel) rfl, z_mem 818 (by decide +kernel) rfl, z_mem 816 (by decide +kernel) rfl⟩
set_option maxRecDepth 20000 in
theorem kc_Pl_gameValue : kC M_Pl_gameValue 1 := ⟨z_mem 823 (by rfl) rfl, z_mem 106 (by decide +kernel) rfl, ⟨by decide, by decide⟩, by decide +kernel, by decide⟩
theorem k_Pl_96 : kV "WindBrides$Plans" 96 7 M_Pl_gameValue 1 := ⟨kc_Pl_gameValue, _, _, _, rfl, z_mem 822 (by decide +kernel) rfl, z_mem 29 (by decide +kernel) rfl, z_mem 820 (by decide +kernel) rfl⟩
theorem f_Pl_100_7 : zF "WindBrides$Plans" 100 7 6 .int false := ⟨R_Pl, F_Pl, 13, "WindBrides$Plans", t_Pl, rfl, by decide, i_Pl, z_mem 315 (by decide +kernel) rfl, Or.inl rfl, t_Pl_ok, n_Pl, rfl, by decide +kernel, by intro h; cases h⟩
theorem f_Wb_238_7 : zF "WindBrides" 238 7 6 .int false := ⟨R_Pl, F_Pl, 13, "WindBrides$Plans", t_Pl, rfl, by decide, i_Pl, z_mem 316 (by decide +kernel) rfl, Or.inl rfl, t_Pl_ok, n_Pl, rfl, by decide +kernel, by intro h; cases h⟩
theorem f_Wb_241_3 : zF "WindBrides" 241 3 14 .int false := ⟨R_Co, F_Co, 17, "WindBrides$Coast", t_Co, rfl, by decide, i_Co, z_mem 229 (by decide +kernel) rfl, Or.inl rfl, t_Co_ok, n_Co, rfl, by decide +kernel, by intro h; cases h⟩
set_option maxRecDepth 20000 in
theorem kc_Co_addReport : kC M_Co_addReport 4 := ⟨z_mem 835 (by rfl) rfl, z_mem 102 (by decide +kernel) rfl, ⟨by decide, by decide⟩, by decide +kernel, by decide⟩
theorem k_Wb_244 : kV "WindBrides" 244 3 M_Co_addReport 4 := ⟨kc_Co_addReport, _, _, _, rfl, z_mem 833 (by decide +kernel) rfl, z_mem 834 (by decide +kernel) rfl, z_mem 832 (by decide +kernel) rfl⟩
theorem f_Co_82_3 : zF "WindBrides$Coast" 82 3 14 .int false := ⟨R_Co, F_Co, 17, "WindBrides$Coast", t_Co, rfl, by decide, i_Co, z_mem 228 (by decide +kernel) rfl, Or.inl rfl, t_Co_ok, n_Co, rfl, by decide +kernel, by intro h; cases h⟩
set_option maxRecDepth 20000 in
theorem kc_Co_fittingWinds : kC M_Co_fittingWinds 1 := ⟨z_mem 847 (by rfl) rfl, z_mem 102 (by decide +kernel) rfl, ⟨by decide, by decide⟩, by decide +kernel, by decide⟩
theorem k_Wb_247 : kV "WindBrides" 247 3 M_Co_fittingWinds 1 := ⟨kc_Co_fittingWinds, _, _, _, rfl, z_mem 845 (by decide +kernel) rfl, z_mem 846 (by decide +kernel) rfl, z_mem 844 (by decide +kernel) rfl⟩
set_option maxRecDepth 20000 in
theorem kc_Co_fits : kC M_Co_fits 3 := ⟨z_mem 851 (by rfl) rfl, z_mem 102 (by decide +kernel) rfl, ⟨by decide, by decide⟩, by decide +kernel, by decide⟩
theorem k_Wb_250 : kV "WindBrides" 250 3 M_Co_fits 3 := ⟨kc_Co_fits, _, _, _, rfl, z_mem 849 (by decide +kernel) rfl, z_mem 850 (by decide +kernel) rfl, z_mem 852 (by decide +kernel) rfl⟩
theorem k_Co_129 : kV "WindBrides$Coast" 129 3 M_Co_fits 3 := ⟨kc_Co_fits, _, _, _, rfl, z_mem 849 (by decide +kernel) rfl, z_mem 850 (by decide +kernel) rfl, z_mem 848 (by decide +kernel) rfl⟩
theorem f_Wb_253_3 : zF "WindBrides" 253 3 11 .int false := ⟨R_Co, F_Co, 17, "WindBrides$Coast", t_Co, rfl, by decide, i_Co, z_mem 221 (by decide +kernel) rfl, Or.inl rfl, t_Co_ok, n_Co, rfl, by decide +kernel, by intro h; cases h⟩
set_option maxRecDepth 20000 in
theorem kc_Co_drawAct : kC M_Co_drawAct 0 := ⟨z_mem 868 (by rfl) rfl, z_mem 102 (by decide +kernel) rfl, ⟨by decide, by decide⟩, by decide +kernel, by decide⟩
theorem k_Wb_256 : kV "WindBrides" 256 3 M_Co_drawAct 0 := ⟨kc_Co_drawAct, _, _, _, rfl, z_mem 866 (by decide +kernel) rfl, z_mem 867 (by decide +kernel) rfl, z_mem 865 (by decide +kernel) rfl⟩
theorem l_Co_100 : Cond.constant "WindBrides$Coast" 100 1103515245 ∈ zT := z_mem 869 (by decide +kernel) rfl
set_option maxRecDepth 20000 in
theorem kc_Pl_writeRows : kC M_Pl_writeRows 0 := ⟨z_mem 881 (by rfl) rfl, z_mem 106 (by decide +kernel) rfl, ⟨by decide, by decide⟩, by decide +kernel, by decide⟩
theorem k_Wb_259 : kV "WindBrides" 259 7 M_Pl_writeRows 0 := ⟨kc_Pl_writeRows, _, _, _, rfl, z_mem 879 (by decide +kernel) rfl, z_mem 880 (by decide +kernel) rfl, z_mem 878 (by decide +kernel) rfl⟩
theorem f_Pl_103_7 : zF "WindBrides$Plans" 103 7 7 .int false := ⟨R_Pl, F_Pl, 13, "WindBrides$Plans", t_Pl, rfl, by decide, i_Pl, z_mem 317 (by decide +kernel) rfl, Or.inl rfl, t_Pl_ok, n_Pl, rfl, by decide +kernel, by intro h; cases h⟩
set_option maxRecDepth 20000 in
theorem kc_Pl_hasCell : kC M_Pl_hasCell 2 := ⟨z_mem 889 (by rfl) rfl, z_mem 106 (by decide +kernel) rfl, ⟨by decide, by decide⟩, by decide +kernel, by decide⟩
theorem k_Wb_262 : kV "WindBrides" 262 7 M_Pl_hasCell 2 := ⟨kc_Pl_hasCell, _, _, _, rfl, z_mem 887 (by decide +kernel) rfl, z_mem 888 (by decide +kernel) rfl, z_mem 886 (by decide +kernel) rfl⟩
theorem f_Wb_265_7 : zFr "WindBrides" 265 7 8 := ⟨R_Pl, F_Pl, 13, "WindBrides$Plans", rfl, by decide, i_Pl, z_mem 320 (by decide +kernel) rfl, Or.inl rfl⟩
theorem k_Pl_106 : kS "WindBrides$Plans" 106 M_Wb_within 3 := ⟨kc_Wb_within, z_mem 403 (by decide +kernel) rfl, Or.inr ⟨"WindBrides", z_memN 890 (by decide +kernel) rfl⟩⟩
set_option maxRecDepth 20000 in
theorem kc_Pl_firstWrongRow : kC M_Pl_firstWrongRow 1 := ⟨z_mem 902 (by rfl) rfl, z_mem 106 (by decide +kernel) rfl, ⟨by decide, by decide⟩, by decide +kernel, by decide⟩
theorem k_Wb_268 : kV "WindBrides" 268 7 M_Pl_firstWrongRow 1 := ⟨kc_Pl_firstWrongRow, _, _, _, rfl, z_mem 900 (by decide +kernel) rfl, z_mem 901 (by decide +kernel) rfl, z_mem 899 (by decide +kernel) rfl⟩
set_option maxRecDepth 20000 in
theorem kc_Co_isAct : kC M_Co_isAct 1 := ⟨z_mem 906 (by rfl) rfl, z_mem 102 (by decide +kernel) rfl, ⟨by decide, by decide⟩, by decide +kernel, by decide⟩
theorem k_Pl_110 : kV "WindBrides$Plans" 110 3 M_Co_isAct 1 := ⟨kc_Co_isAct, _, _, _, rfl, z_mem 904 (by decide +kernel) rfl, z_mem 905 (by decide +kernel) rfl, z_mem 903 (by decide +kernel) rfl⟩
set_option maxRecDepth 20000 in
theorem kc_Wb_isSheet : kC M_Wb_isSheet 1 := ⟨z_mem 913 (by rfl) rfl, z_mem 101 (by decide +kernel) rfl, ⟨by decide, by decide⟩, by decide +kernel, by decide⟩
theorem k_Wb_272 : kS "WindBrides" 272 M_Wb_isSheet 1 := ⟨kc_Wb_isSheet, z_mem 912 (by decide +kernel) rfl, Or.inl (z_mem 911 (by decide +kernel) rfl)⟩
set_option maxRecDepth 20000 in
theorem kc_Wb_hasItem : kC M_Wb_hasItem 2 := ⟨z_mem 921 (by rfl) rfl, z_mem 101 (by decide +kernel) rfl, ⟨by decide, by decide⟩, by decide +kernel, by decide⟩
theorem k_Wb_275 : kV "WindBrides" 275 11 M_Wb_hasItem 2 := ⟨kc_Wb_hasItem, _, _, _, rfl, z_mem 920 (by decide +kernel) rfl, z_mem 30 (by decide +kernel) rfl, z_mem 918 (by decide +kernel) rfl⟩
set_option maxRecDepth 20000 in
theorem kc_Wb_narrowed : kC M_Wb_narrowed 2 := ⟨z_mem 924 (by rfl) rfl, z_mem 101 (by decide +kernel) rfl, ⟨by decide, by decide⟩, by decide +kernel, by decide⟩
theorem k_Wb_278 : kS "WindBrides" 278 M_Wb_narrowed 2 := ⟨kc_Wb_narrowed, z_mem 923 (by decide +kernel) rfl, Or.inl (z_mem 922 (by decide +kernel) rfl)⟩
set_option maxRecDepth 20000 in
theorem kc_Wb_refusalAs : kC M_Wb_refusalAs 2 := ⟨z_mem 932 (by rfl) rfl, z_mem 101 (by decide +kernel) rfl, ⟨by decide, by decide⟩, by decide +kernel, by decide⟩
theorem k_Wb_282 : kV "WindBrides" 282 11 M_Wb_refusalAs 2 := ⟨kc_Wb_refusalAs, _, _, _, rfl, z_mem 931 (by decide +kernel) rfl, z_mem 31 (by decide +kernel) rfl, z_mem 929 (by decide +kernel) rfl⟩
theorem k_Wb_285 : kV "WindBrides" 285 3 M_Co_isAct 1 := ⟨kc_Co_isAct, _, _, _, rfl, z_mem 904 (by decide +kernel) rfl, z_mem 905 (by decide +kernel) rfl, z_mem 937 (by decide +kernel) rfl⟩
set_option maxRecDepth 20000 in
theorem kc_Wb_isShelf : kC M_Wb_isShelf 1 := ⟨z_mem 948 (by rfl) rfl, z_mem 101 (by decide +kernel) rfl, ⟨by decide, by decide⟩, by decide +kernel, by decide⟩
theorem k_Wb_288 : kS "WindBrides" 288 M_Wb_isShelf 1 := ⟨kc_Wb_isShelf, z_mem 947 (by decide +kernel) rfl, Or.inl (z_mem 946 (by decide +kernel) rfl)⟩
set_option maxRecDepth 20000 in
theorem kc_Wb_putRow : kC M_Wb_putRow 2 := ⟨z_mem 952 (by rfl) rfl, z_mem 101 (by decide +kernel) rfl, ⟨by decide, by decide⟩, by decide +kernel, by decide⟩
theorem k_Wb_291 : kV "WindBrides" 291 11 M_Wb_putRow 2 := ⟨kc_Wb_putRow, _, _, _, rfl, z_mem 951 (by decide +kernel) rfl, z_mem 32 (by decide +kernel) rfl, z_mem 949 (by decide +kernel) rfl⟩
set_option maxRecDepth 20000 in
theorem kc_Wb_heldOn : kC M_Wb_heldOn 1 := ⟨z_mem 960 (by rfl) rfl, z_mem 101 (by decide +kernel) rfl, ⟨by decide, by decide⟩, by decide +kernel, by decide⟩
theorem k_Wb_295 : kV "WindBrides" 295 11 M_Wb_heldOn 1 := ⟨kc_Wb_heldOn, _, _, _, rfl, z_mem 959 (by decide +kernel) rfl, z_mem 33 (by decide +kernel) rfl, z_mem 957 (by decide +kernel) rfl⟩
theorem k_Wb_298 : kS "WindBrides" 298 M_Wb_isUnder 2 := ⟨kc_Wb_isUnder, z_mem 430 (by decide +kernel) rfl, Or.inl (z_mem 961 (by decide +kernel) rfl)⟩
theorem f_Wb_301_11 : zF "WindBrides" 301 11 14 (.object "WindBrides$Girl") false := ⟨R_Wb, F_Wb, 15, "WindBrides", t_Wb, rfl, by decide, i_Wb, z_mem 366 (by decide +kernel) rfl, Or.inl rfl, t_Wb_ok, n_Wb, rfl, by decide +kernel, by intro h; cases h⟩
set_option maxRecDepth 20000 in
theorem kc_Wb_thingOf : kC M_Wb_thingOf 1 := ⟨z_mem 969 (by rfl) rfl, z_mem 101 (by decide +kernel) rfl, ⟨by decide, by decide⟩, by decide +kernel, by decide⟩
theorem k_Wb_305 : kV "WindBrides" 305 11 M_Wb_thingOf 1 := ⟨kc_Wb_thingOf, _, _, _, rfl, z_mem 968 (by decide +kernel) rfl, z_mem 34 (by decide +kernel) rfl, z_mem 966 (by decide +kernel) rfl⟩
set_option maxRecDepth 20000 in
theorem kc_Gi_sails : kC M_Gi_sails 1 := ⟨z_mem 1086 (by rfl) rfl, z_mem 114 (by decide +kernel) rfl, ⟨by decide, by decide⟩, by decide +kernel, by decide⟩
theorem k_Wb_309_1 : kU "WindBrides" 309 1 ⟨"WindBrides$Girl", "sails", "(I)I"⟩ "WindBrides$Girl" M_Gi_sails 1 := ⟨kc_Gi_sails, rfl, ⟨by decide, by decide⟩, _, _, _, rfl, z_mem 1060 (by decide +kernel) rfl, z_mem 1063 (by decide +kernel) rfl, Or.inr (z_memN 1085 (by decide +kernel) rfl), z_mem 1064 (by decide +kernel) rfl, z_mem 1061 (by decide +kernel) rfl⟩
theorem k_Wb_309_2 : kU "WindBrides" 309 2 ⟨"WindBrides$Girl", "sails", "(I)I"⟩ "WindBrides$Girl" M_Gi_sails 1 := ⟨kc_Gi_sails, rfl, ⟨by decide, by decide⟩, _, _, _, rfl, z_mem 1060 (by decide +kernel) rfl, z_mem 1063 (by decide +kernel) rfl, Or.inr (z_memN 1085 (by decide +kernel) rfl), z_mem 1065 (by decide +kernel) rfl, z_mem 1061 (by decide +kernel) rfl⟩
theorem k_Wb_309_5 : kU "WindBrides" 309 5 ⟨"WindBrides$Girl", "sails", "(I)I"⟩ "WindBrides$Girl" M_Gi_sails 1 := ⟨kc_Gi_sails, rfl, ⟨by decide, by decide⟩, _, _, _, rfl, z_mem 1060 (by decide +kernel) rfl, z_mem 1063 (by decide +kernel) rfl, Or.inr (z_memN 1085 (by decide +kernel) rfl), z_mem 1062 (by decide +kernel) rfl, z_mem 1061 (by decide +kernel) rfl⟩
theorem k_Wb_309_6 : kU "WindBrides" 309 6 ⟨"WindBrides$Girl", "sails", "(I)I"⟩ "WindBrides$Girl" M_Gi_sails 1 := ⟨kc_Gi_sails, rfl, ⟨by decide, by decide⟩, _, _, _, rfl, z_mem 1060 (by decide +kernel) rfl, z_mem 1063 (by decide +kernel) rfl, Or.inr (z_memN 1085 (by decide +kernel) rfl), z_mem 1066 (by decide +kernel) rfl, z_mem 1061 (by decide +kernel) rfl⟩
set_option maxRecDepth 20000 in
theorem kc_Sh_sails : kC M_Sh_sails 1 := ⟨z_mem 1069 (by rfl) rfl, z_mem 115 (by decide +kernel) rfl, ⟨by decide, by decide⟩, by decide +kernel, by decide⟩
theorem k_Wb_309_8 : kU "WindBrides" 309 8 ⟨"WindBrides$Girl", "sails", "(I)I"⟩ "WindBrides$Girl" M_Sh_sails 1 := ⟨kc_Sh_sails, rfl, ⟨by decide, by decide⟩, _, _, _, rfl, z_mem 1060 (by decide +kernel) rfl, z_mem 1063 (by decide +kernel) rfl, Or.inr (z_memN 1085 (by decide +kernel) rfl), z_mem 1067 (by decide +kernel) rfl, z_mem 1068 (by decide +kernel) rfl⟩
set_option maxRecDepth 20000 in
theorem kc_Tw_sails : kC M_Tw_sails 1 := ⟨z_mem 1079 (by rfl) rfl, z_mem 117 (by decide +kernel) rfl, ⟨by decide, by decide⟩, by decide +kernel, by decide⟩
theorem k_Wb_309_10 : kU "WindBrides" 309 10 ⟨"WindBrides$Girl", "sails", "(I)I"⟩ "WindBrides$Girl" M_Tw_sails 1 := ⟨kc_Tw_sails, rfl, ⟨by decide, by decide⟩, _, _, _, rfl, z_mem 1060 (by decide +kernel) rfl, z_mem 1063 (by decide +kernel) rfl, Or.inr (z_memN 1085 (by decide +kernel) rfl), z_mem 1077 (by decide +kernel) rfl, z_mem 1078 (by decide +kernel) rfl⟩
set_option maxRecDepth 20000 in
theorem kc_Br_calls : kC M_Br_calls 1 := ⟨z_mem 1094 (by rfl) rfl, z_mem 116 (by decide +kernel) rfl, ⟨by decide, by decide⟩, by decide +kernel, by decide⟩
theorem k_Wb_314_1 : kU "WindBrides" 314 1 ⟨"WindBrides$Girl", "calls", "(I)I"⟩ "WindBrides$Girl" M_Br_calls 1 := ⟨kc_Br_calls, rfl, ⟨by decide, by decide⟩, _, _, _, rfl, z_mem 1088 (by decide +kernel) rfl, z_mem 1091 (by decide +kernel) rfl, Or.inr (z_memN 1108 (by decide +kernel) rfl), z_mem 1092 (by decide +kernel) rfl, z_mem 1093 (by decide +kernel) rfl⟩
set_option maxRecDepth 20000 in
theorem kc_Ca_calls : kC M_Ca_calls 1 := ⟨z_mem 1102 (by rfl) rfl, z_mem 119 (by decide +kernel) rfl, ⟨by decide, by decide⟩, by decide +kernel, by decide⟩
theorem k_Wb_314_2 : kU "WindBrides" 314 2 ⟨"WindBrides$Girl", "calls", "(I)I"⟩ "WindBrides$Girl" M_Ca_calls 1 := ⟨kc_Ca_calls, rfl, ⟨by decide, by decide⟩, _, _, _, rfl, z_mem 1088 (by decide +kernel) rfl, z_mem 1091 (by decide +kernel) rfl, Or.inr (z_memN 1108 (by decide +kernel) rfl), z_mem 1100 (by decide +kernel) rfl, z_mem 1101 (by decide +kernel) rfl⟩
set_option maxRecDepth 20000 in
theorem kc_Gi_calls : kC M_Gi_calls 1 := ⟨z_mem 1112 (by rfl) rfl, z_mem 114 (by decide +kernel) rfl, ⟨by decide, by decide⟩, by decide +kernel, by decide⟩
theorem k_Wb_314_5 : kU "WindBrides" 314 5 ⟨"WindBrides$Girl", "calls", "(I)I"⟩ "WindBrides$Girl" M_Gi_calls 1 := ⟨kc_Gi_calls, rfl, ⟨by decide, by decide⟩, _, _, _, rfl, z_mem 1088 (by decide +kernel) rfl, z_mem 1091 (by decide +kernel) rfl, Or.inr (z_memN 1108 (by decide +kernel) rfl), z_mem 1090 (by decide +kernel) rfl, z_mem 1089 (by decide +kernel) rfl⟩
theorem k_Wb_314_6 : kU "WindBrides" 314 6 ⟨"WindBrides$Girl", "calls", "(I)I"⟩ "WindBrides$Girl" M_Gi_calls 1 := ⟨kc_Gi_calls, rfl, ⟨by decide, by decide⟩, _, _, _, rfl, z_mem 1088 (by decide +kernel) rfl, z_mem 1091 (by decide +kernel) rfl, Or.inr (z_memN 1108 (by decide +kernel) rfl), z_mem 1109 (by decide +kernel) rfl, z_mem 1089 (by decide +kernel) rfl⟩
theorem k_Wb_314_8 : kU "WindBrides" 314 8 ⟨"WindBrides$Girl", "calls", "(I)I"⟩ "WindBrides$Girl" M_Gi_calls 1 := ⟨kc_Gi_calls, rfl, ⟨by decide, by decide⟩, _, _, _, rfl, z_mem 1088 (by decide +kernel) rfl, z_mem 1091 (by decide +kernel) rfl, Or.inr (z_memN 1108 (by decide +kernel) rfl), z_mem 1110 (by decide +kernel) rfl, z_mem 1089 (by decide +kernel) rfl⟩
theorem k_Wb_314_10 : kU "WindBrides" 314 10 ⟨"WindBrides$Girl", "calls", "(I)I"⟩ "WindBrides$Girl" M_Br_calls 1 := ⟨kc_Br_calls, rfl, ⟨by decide, by decide⟩, _, _, _, rfl, z_mem 1088 (by decide +kernel) rfl, z_mem 1091 (by decide +kernel) rfl, Or.inr (z_memN 1108 (by decide +kernel) rfl), z_mem 1111 (by decide +kernel) rfl, z_mem 1093 (by decide +kernel) rfl⟩
set_option maxRecDepth 20000 in
theorem kc_Gi_shares : kC M_Gi_shares 1 := ⟨z_mem 1136 (by rfl) rfl, z_mem 114 (by decide +kernel) rfl, ⟨by decide, by decide⟩, by decide +kernel, by decide⟩
set_option maxRecDepth 20000 in
theorem k_Wb_317_1 : kU "WindBrides" 317 1 ⟨"WindBrides$Girl", "shares", "(I)I"⟩ "WindBrides$Girl" M_Gi_shares 1 := ⟨kc_Gi_shares, rfl, ⟨by decide, by decide⟩, _, _, _, rfl, z_mem 1114 (by decide +kernel) rfl, z_mem 1117 (by decide +kernel) rfl, Or.inl ⟨z_mem 1115 (by decide +kernel) rfl, _, _, _, z_mem 1136 (by rfl) rfl⟩, z_mem 1118 (by decide +kernel) rfl, z_mem 1115 (by decide +kernel) rfl⟩
set_option maxRecDepth 20000 in
theorem kc_Ca_shares : kC M_Ca_shares 1 := ⟨z_mem 1121 (by rfl) rfl, z_mem 119 (by decide +kernel) rfl, ⟨by decide, by decide⟩, by decide +kernel, by decide⟩
set_option maxRecDepth 20000 in
theorem k_Wb_317_2 : kU "WindBrides" 317 2 ⟨"WindBrides$Girl", "shares", "(I)I"⟩ "WindBrides$Girl" M_Ca_shares 1 := ⟨kc_Ca_shares, rfl, ⟨by decide, by decide⟩, _, _, _, rfl, z_mem 1114 (by decide +kernel) rfl, z_mem 1117 (by decide +kernel) rfl, Or.inl ⟨z_mem 1115 (by decide +kernel) rfl, _, _, _, z_mem 1136 (by rfl) rfl⟩, z_mem 1119 (by decide +kernel) rfl, z_mem 1120 (by decide +kernel) rfl⟩
set_option maxRecDepth 20000 in
theorem k_Wb_317_5 : kU "WindBrides" 317 5 ⟨"WindBrides$Girl", "shares", "(I)I"⟩ "WindBrides$Girl" M_Gi_shares 1 := ⟨kc_Gi_shares, rfl, ⟨by decide, by decide⟩, _, _, _, rfl, z_mem 1114 (by decide +kernel) rfl, z_mem 1117 (by decide +kernel) rfl, Or.inl ⟨z_mem 1115 (by decide +kernel) rfl, _, _, _, z_mem 1136 (by rfl) rfl⟩, z_mem 1116 (by decide +kernel) rfl, z_mem 1115 (by decide +kernel) rfl⟩
set_option maxRecDepth 20000 in
theorem kc_La_shares : kC M_La_shares 1 := ⟨z_mem 1124 (by rfl) rfl, z_mem 118 (by decide +kernel) rfl, ⟨by decide, by decide⟩, by decide +kernel, by decide⟩
set_option maxRecDepth 20000 in
theorem k_Wb_317_6 : kU "WindBrides" 317 6 ⟨"WindBrides$Girl", "shares", "(I)I"⟩ "WindBrides$Girl" M_La_shares 1 := ⟨kc_La_shares, rfl, ⟨by decide, by decide⟩, _, _, _, rfl, z_mem 1114 (by decide +kernel) rfl, z_mem 1117 (by decide +kernel) rfl, Or.inl ⟨z_mem 1115 (by decide +kernel) rfl, _, _, _, z_mem 1136 (by rfl) rfl⟩, z_mem 1133 (by decide +kernel) rfl, z_mem 1123 (by decide +kernel) rfl⟩
set_option maxRecDepth 20000 in
theorem k_Wb_317_8 : kU "WindBrides" 317 8 ⟨"WindBrides$Girl", "shares", "(I)I"⟩ "WindBrides$Girl" M_Gi_shares 1 := ⟨kc_Gi_shares, rfl, ⟨by decide, by decide⟩, _, _, _, rfl, z_mem 1114 (by decide +kernel) rfl, z_mem 1117 (by decide +kernel) rfl, Or.inl ⟨z_mem 1115 (by decide +kernel) rfl, _, _, _, z_mem 1136 (by rfl) rfl⟩, z_mem 1134 (by decide +kernel) rfl, z_mem 1115 (by decide +kernel) rfl⟩
set_option maxRecDepth 20000 in
theorem k_Wb_317_10 : kU "WindBrides" 317 10 ⟨"WindBrides$Girl", "shares", "(I)I"⟩ "WindBrides$Girl" M_Gi_shares 1 := ⟨kc_Gi_shares, rfl, ⟨by decide, by decide⟩, _, _, _, rfl, z_mem 1114 (by decide +kernel) rfl, z_mem 1117 (by decide +kernel) rfl, Or.inl ⟨z_mem 1115 (by decide +kernel) rfl, _, _, _, z_mem 1136 (by rfl) rfl⟩, z_mem 1135 (by decide +kernel) rfl, z_mem 1115 (by decide +kernel) rfl⟩
set_option maxRecDepth 20000 in
theorem kc_Gi_weds : kC M_Gi_weds 1 := ⟨z_mem 1155 (by rfl) rfl, z_mem 114 (by decide +kernel) rfl, ⟨by decide, by decide⟩, by decide +kernel, by decide⟩
theorem k_Wb_320_1 : kU "WindBrides" 320 1 ⟨"WindBrides$Girl", "weds", "(I)I"⟩ "WindBrides$Girl" M_Gi_weds 1 := ⟨kc_Gi_weds, rfl, ⟨by decide, by decide⟩, _, _, _, rfl, z_mem 1137 (by decide +kernel) rfl, z_mem 1140 (by decide +kernel) rfl, Or.inr (z_memN 1150 (by decide +kernel) rfl), z_mem 1141 (by decide +kernel) rfl, z_mem 1138 (by decide +kernel) rfl⟩
theorem k_Wb_320_2 : kU "WindBrides" 320 2 ⟨"WindBrides$Girl", "weds", "(I)I"⟩ "WindBrides$Girl" M_Gi_weds 1 := ⟨kc_Gi_weds, rfl, ⟨by decide, by decide⟩, _, _, _, rfl, z_mem 1137 (by decide +kernel) rfl, z_mem 1140 (by decide +kernel) rfl, Or.inr (z_memN 1150 (by decide +kernel) rfl), z_mem 1142 (by decide +kernel) rfl, z_mem 1138 (by decide +kernel) rfl⟩
theorem k_Wb_320_5 : kU "WindBrides" 320 5 ⟨"WindBrides$Girl", "weds", "(I)I"⟩ "WindBrides$Girl" M_Gi_weds 1 := ⟨kc_Gi_weds, rfl, ⟨by decide, by decide⟩, _, _, _, rfl, z_mem 1137 (by decide +kernel) rfl, z_mem 1140 (by decide +kernel) rfl, Or.inr (z_memN 1150 (by decide +kernel) rfl), z_mem 1139 (by decide +kernel) rfl, z_mem 1138 (by decide +kernel) rfl⟩
theorem k_Wb_320_6 : kU "WindBrides" 320 6 ⟨"WindBrides$Girl", "weds", "(I)I"⟩ "WindBrides$Girl" M_Gi_weds 1 := ⟨kc_Gi_weds, rfl, ⟨by decide, by decide⟩, _, _, _, rfl, z_mem 1137 (by decide +kernel) rfl, z_mem 1140 (by decide +kernel) rfl, Or.inr (z_memN 1150 (by decide +kernel) rfl), z_mem 1143 (by decide +kernel) rfl, z_mem 1138 (by decide +kernel) rfl⟩
theorem k_Wb_320_8 : kU "WindBrides" 320 8 ⟨"WindBrides$Girl", "weds", "(I)I"⟩ "WindBrides$Girl" M_Gi_weds 1 := ⟨kc_Gi_weds, rfl, ⟨by decide, by decide⟩, _, _, _, rfl, z_mem 1137 (by decide +kernel) rfl, z_mem 1140 (by decide +kernel) rfl, Or.inr (z_memN 1150 (by decide +kernel) rfl), z_mem 1144 (by decide +kernel) rfl, z_mem 1138 (by decide +kernel) rfl⟩
set_option maxRecDepth 20000 in
theorem kc_Tw_weds : kC M_Tw_weds 1 := ⟨z_mem 1147 (by rfl) rfl, z_mem 117 (by decide +kernel) rfl, ⟨by decide, by decide⟩, by decide +kernel, by decide⟩
theorem k_Wb_320_10 : kU "WindBrides" 320 10 ⟨"WindBrides$Girl", "weds", "(I)I"⟩ "WindBrides$Girl" M_Tw_weds 1 := ⟨kc_Tw_weds, rfl, ⟨by decide, by decide⟩, _, _, _, rfl, z_mem 1137 (by decide +kernel) rfl, z_mem 1140 (by decide +kernel) rfl, Or.inr (z_memN 1150 (by decide +kernel) rfl), z_mem 1145 (by decide +kernel) rfl, z_mem 1146 (by decide +kernel) rfl⟩
theorem f_Wb_323_1 : zF "WindBrides" 323 1 4 .boolean false := ⟨R_Br, F_Br, 5, "WindBrides$Girl", t_Br, rfl, by decide, i_Br, z_mem 991 (by decide +kernel) rfl, Or.inl rfl, t_Br_ok, n_Br, rfl, by decide +kernel, by intro h; cases h⟩
theorem f_Wb_323_2 : zF "WindBrides" 323 2 4 .boolean false := ⟨R_Ca, F_Ca, 5, "WindBrides$Girl", t_Ca, rfl, by decide, i_Ca, z_mem 991 (by decide +kernel) rfl, Or.inl rfl, t_Ca_ok, n_Ca, rfl, by decide +kernel, by intro h; cases h⟩
theorem f_Wb_323_5 : zF "WindBrides" 323 5 4 .boolean false := ⟨R_Gi, F_Gi, 5, "WindBrides$Girl", t_Gi, rfl, by decide, i_Gi, z_mem 991 (by decide +kernel) rfl, Or.inl rfl, t_Gi_ok, n_Gi, rfl, by decide +kernel, by intro h; cases h⟩
theorem f_Wb_323_6 : zF "WindBrides" 323 6 4 .boolean false := ⟨R_La, F_La, 5, "WindBrides$Girl", t_La, rfl, by decide, i_La, z_mem 991 (by decide +kernel) rfl, Or.inl rfl, t_La_ok, n_La, rfl, by decide +kernel, by intro h; cases h⟩
theorem f_Wb_323_8 : zF "WindBrides" 323 8 4 .boolean false := ⟨R_Sh, F_Sh, 5, "WindBrides$Girl", t_Sh, rfl, by decide, i_Sh, z_mem 991 (by decide +kernel) rfl, Or.inl rfl, t_Sh_ok, n_Sh, rfl, by decide +kernel, by intro h; cases h⟩
theorem f_Wb_323_10 : zF "WindBrides" 323 10 4 .boolean false := ⟨R_Tw, F_Tw, 5, "WindBrides$Girl", t_Tw, rfl, by decide, i_Tw, z_mem 991 (by decide +kernel) rfl, Or.inl rfl, t_Tw_ok, n_Tw, rfl, by decide +kernel, by intro h; cases h⟩
theorem w_Wb_327 : zN "WindBrides" 327 8 5 [.int 0, .int 0, .null, .int 0, .int 0] := ⟨R_Sh, F_Sh, t_Sh, rfl, i_Sh, t_Sh_ok, z_mem 970 (by decide +kernel) rfl, z_mem 971 (by decide +kernel) rfl, z_mem 115 (by decide +kernel) rfl, by decide +kernel, by decide⟩
set_option maxRecDepth 20000 in
theorem kc_Sh_init : kC M_Sh_init 3 := ⟨z_mem 974 (by rfl) rfl, z_mem 115 (by decide +kernel) rfl, ⟨by decide, by decide⟩, by decide +kernel, by decide⟩
theorem k_Wb_329 : kI "WindBrides" 329 M_Sh_init 3 := ⟨kc_Sh_init, rfl, rfl, z_mem 973 (by decide +kernel) rfl, Or.inl (z_mem 972 (by decide +kernel) rfl)⟩
theorem w_Wb_332 : zN "WindBrides" 332 1 5 [.int 0, .int 0, .null, .int 0, .int 0] := ⟨R_Br, F_Br, t_Br, rfl, i_Br, t_Br_ok, z_mem 1003 (by decide +kernel) rfl, z_mem 1004 (by decide +kernel) rfl, z_mem 116 (by decide +kernel) rfl, by decide +kernel, by decide⟩
set_option maxRecDepth 20000 in
theorem kc_Br_init : kC M_Br_init 3 := ⟨z_mem 1007 (by rfl) rfl, z_mem 116 (by decide +kernel) rfl, ⟨by decide, by decide⟩, by decide +kernel, by decide⟩
theorem k_Wb_334 : kI "WindBrides" 334 M_Br_init 3 := ⟨kc_Br_init, rfl, rfl, z_mem 1006 (by decide +kernel) rfl, Or.inl (z_mem 1005 (by decide +kernel) rfl)⟩
theorem w_Wb_335 : zN "WindBrides" 335 10 5 [.int 0, .int 0, .null, .int 0, .int 0] := ⟨R_Tw, F_Tw, t_Tw, rfl, i_Tw, t_Tw_ok, z_mem 1015 (by decide +kernel) rfl, z_mem 1016 (by decide +kernel) rfl, z_mem 117 (by decide +kernel) rfl, by decide +kernel, by decide⟩
set_option maxRecDepth 20000 in
theorem kc_Tw_init : kC M_Tw_init 3 := ⟨z_mem 1019 (by rfl) rfl, z_mem 117 (by decide +kernel) rfl, ⟨by decide, by decide⟩, by decide +kernel, by decide⟩
theorem k_Wb_337 : kI "WindBrides" 337 M_Tw_init 3 := ⟨kc_Tw_init, rfl, rfl, z_mem 1018 (by decide +kernel) rfl, Or.inl (z_mem 1017 (by decide +kernel) rfl)⟩
theorem w_Wb_338 : zN "WindBrides" 338 6 5 [.int 0, .int 0, .null, .int 0, .int 0] := ⟨R_La, F_La, t_La, rfl, i_La, t_La_ok, z_mem 1027 (by decide +kernel) rfl, z_mem 1028 (by decide +kernel) rfl, z_mem 118 (by decide +kernel) rfl, by decide +kernel, by decide⟩
set_option maxRecDepth 20000 in
theorem kc_La_init : kC M_La_init 3 := ⟨z_mem 1031 (by rfl) rfl, z_mem 118 (by decide +kernel) rfl, ⟨by decide, by decide⟩, by decide +kernel, by decide⟩
theorem k_Wb_340 : kI "WindBrides" 340 M_La_init 3 := ⟨kc_La_init, rfl, rfl, z_mem 1030 (by decide +kernel) rfl, Or.inl (z_mem 1029 (by decide +kernel) rfl)⟩
theorem w_Wb_341 : zN "WindBrides" 341 2 5 [.int 0, .int 0, .null, .int 0, .int 0] := ⟨R_Ca, F_Ca, t_Ca, rfl, i_Ca, t_Ca_ok, z_mem 1039 (by decide +kernel) rfl, z_mem 1040 (by decide +kernel) rfl, z_mem 119 (by decide +kernel) rfl, by decide +kernel, by decide⟩
set_option maxRecDepth 20000 in
theorem kc_Ca_init : kC M_Ca_init 3 := ⟨z_mem 1043 (by rfl) rfl, z_mem 119 (by decide +kernel) rfl, ⟨by decide, by decide⟩, by decide +kernel, by decide⟩
theorem k_Wb_343 : kI "WindBrides" 343 M_Ca_init 3 := ⟨kc_Ca_init, rfl, rfl, z_mem 1042 (by decide +kernel) rfl, Or.inl (z_mem 1041 (by decide +kernel) rfl)⟩
theorem w_Wb_310 : zN "WindBrides" 310 5 5 [.int 0, .int 0, .null, .int 0, .int 0] := ⟨R_Gi, F_Gi, t_Gi, rfl, i_Gi, t_Gi_ok, z_mem 1051 (by decide +kernel) rfl, z_mem 1052 (by decide +kernel) rfl, z_mem 114 (by decide +kernel) rfl, by decide +kernel, by decide⟩
set_option maxRecDepth 20000 in
theorem kc_Gi_init : kC M_Gi_init 3 := ⟨z_mem 977 (by rfl) rfl, z_mem 114 (by decide +kernel) rfl, ⟨by decide, by decide⟩, by decide +kernel, by decide⟩
theorem k_Wb_344 : kI "WindBrides" 344 M_Gi_init 3 := ⟨kc_Gi_init, rfl, rfl, z_mem 976 (by decide +kernel) rfl, Or.inl (z_mem 1053 (by decide +kernel) rfl)⟩
theorem k_Sh_1 : kI "WindBrides$Shared" 1 M_Gi_init 3 := ⟨kc_Gi_init, rfl, rfl, z_mem 976 (by decide +kernel) rfl, Or.inl (z_mem 975 (by decide +kernel) rfl)⟩
theorem ko_Gi_1 : Cond.methodLink "WindBrides$Girl" 1 objectInit ∈ zT := z_mem 978 (by decide +kernel) rfl
theorem f_Gi_7_1 : zF "WindBrides$Girl" 7 1 0 .int true := ⟨R_Br, F_Br, 5, "WindBrides$Girl", t_Br, rfl, by decide, i_Br, z_mem 979 (by decide +kernel) rfl, Or.inl rfl, t_Br_ok, n_Br, rfl, by decide +kernel, fun _ => rfl⟩
theorem f_Gi_7_2 : zF "WindBrides$Girl" 7 2 0 .int true := ⟨R_Ca, F_Ca, 5, "WindBrides$Girl", t_Ca, rfl, by decide, i_Ca, z_mem 979 (by decide +kernel) rfl, Or.inl rfl, t_Ca_ok, n_Ca, rfl, by decide +kernel, fun _ => rfl⟩
theorem f_Gi_7_5 : zF "WindBrides$Girl" 7 5 0 .int true := ⟨R_Gi, F_Gi, 5, "WindBrides$Girl", t_Gi, rfl, by decide, i_Gi, z_mem 979 (by decide +kernel) rfl, Or.inl rfl, t_Gi_ok, n_Gi, rfl, by decide +kernel, fun _ => rfl⟩
theorem f_Gi_7_6 : zF "WindBrides$Girl" 7 6 0 .int true := ⟨R_La, F_La, 5, "WindBrides$Girl", t_La, rfl, by decide, i_La, z_mem 979 (by decide +kernel) rfl, Or.inl rfl, t_La_ok, n_La, rfl, by decide +kernel, fun _ => rfl⟩
theorem f_Gi_7_8 : zF "WindBrides$Girl" 7 8 0 .int true := ⟨R_Sh, F_Sh, 5, "WindBrides$Girl", t_Sh, rfl, by decide, i_Sh, z_mem 979 (by decide +kernel) rfl, Or.inl rfl, t_Sh_ok, n_Sh, rfl, by decide +kernel, fun _ => rfl⟩
theorem f_Gi_7_10 : zF "WindBrides$Girl" 7 10 0 .int true := ⟨R_Tw, F_Tw, 5, "WindBrides$Girl", t_Tw, rfl, by decide, i_Tw, z_mem 979 (by decide +kernel) rfl, Or.inl rfl, t_Tw_ok, n_Tw, rfl, by decide +kernel, fun _ => rfl⟩
theorem f_Gi_13_1 : zF "WindBrides$Girl" 13 1 1 .int true := ⟨R_Br, F_Br, 5, "WindBrides$Girl", t_Br, rfl, by decide, i_Br, z_mem 984 (by decide +kernel) rfl, Or.inl rfl, t_Br_ok, n_Br, rfl, by decide +kernel, fun _ => rfl⟩
theorem f_Gi_13_2 : zF "WindBrides$Girl" 13 2 1 .int true := ⟨R_Ca, F_Ca, 5, "WindBrides$Girl", t_Ca, rfl, by decide, i_Ca, z_mem 984 (by decide +kernel) rfl, Or.inl rfl, t_Ca_ok, n_Ca, rfl, by decide +kernel, fun _ => rfl⟩
theorem f_Gi_13_5 : zF "WindBrides$Girl" 13 5 1 .int true := ⟨R_Gi, F_Gi, 5, "WindBrides$Girl", t_Gi, rfl, by decide, i_Gi, z_mem 984 (by decide +kernel) rfl, Or.inl rfl, t_Gi_ok, n_Gi, rfl, by decide +kernel, fun _ => rfl⟩
theorem f_Gi_13_6 : zF "WindBrides$Girl" 13 6 1 .int true := ⟨R_La, F_La, 5, "WindBrides$Girl", t_La, rfl, by decide, i_La, z_mem 984 (by decide +kernel) rfl, Or.inl rfl, t_La_ok, n_La, rfl, by decide +kernel, fun _ => rfl⟩
theorem f_Gi_13_8 : zF "WindBrides$Girl" 13 8 1 .int true := ⟨R_Sh, F_Sh, 5, "WindBrides$Girl", t_Sh, rfl, by decide, i_Sh, z_mem 984 (by decide +kernel) rfl, Or.inl rfl, t_Sh_ok, n_Sh, rfl, by decide +kernel, fun _ => rfl⟩
theorem f_Gi_13_10 : zF "WindBrides$Girl" 13 10 1 .int true := ⟨R_Tw, F_Tw, 5, "WindBrides$Girl", t_Tw, rfl, by decide, i_Tw, z_mem 984 (by decide +kernel) rfl, Or.inl rfl, t_Tw_ok, n_Tw, rfl, by decide +kernel, fun _ => rfl⟩
theorem f_Gi_16_1 : zF "WindBrides$Girl" 16 1 2 (.array .int) true := ⟨R_Br, F_Br, 5, "WindBrides$Girl", t_Br, rfl, by decide, i_Br, z_mem 987 (by decide +kernel) rfl, Or.inl rfl, t_Br_ok, n_Br, rfl, by decide +kernel, fun _ => rfl⟩
theorem f_Gi_16_2 : zF "WindBrides$Girl" 16 2 2 (.array .int) true := ⟨R_Ca, F_Ca, 5, "WindBrides$Girl", t_Ca, rfl, by decide, i_Ca, z_mem 987 (by decide +kernel) rfl, Or.inl rfl, t_Ca_ok, n_Ca, rfl, by decide +kernel, fun _ => rfl⟩
theorem f_Gi_16_5 : zF "WindBrides$Girl" 16 5 2 (.array .int) true := ⟨R_Gi, F_Gi, 5, "WindBrides$Girl", t_Gi, rfl, by decide, i_Gi, z_mem 987 (by decide +kernel) rfl, Or.inl rfl, t_Gi_ok, n_Gi, rfl, by decide +kernel, fun _ => rfl⟩
theorem f_Gi_16_6 : zF "WindBrides$Girl" 16 6 2 (.array .int) true := ⟨R_La, F_La, 5, "WindBrides$Girl", t_La, rfl, by decide, i_La, z_mem 987 (by decide +kernel) rfl, Or.inl rfl, t_La_ok, n_La, rfl, by decide +kernel, fun _ => rfl⟩
theorem f_Gi_16_8 : zF "WindBrides$Girl" 16 8 2 (.array .int) true := ⟨R_Sh, F_Sh, 5, "WindBrides$Girl", t_Sh, rfl, by decide, i_Sh, z_mem 987 (by decide +kernel) rfl, Or.inl rfl, t_Sh_ok, n_Sh, rfl, by decide +kernel, fun _ => rfl⟩
theorem f_Gi_16_10 : zF "WindBrides$Girl" 16 10 2 (.array .int) true := ⟨R_Tw, F_Tw, 5, "WindBrides$Girl", t_Tw, rfl, by decide, i_Tw, z_mem 987 (by decide +kernel) rfl, Or.inl rfl, t_Tw_ok, n_Tw, rfl, by decide +kernel, fun _ => rfl⟩
theorem k_Br_1 : kI "WindBrides$Bred" 1 M_Gi_init 3 := ⟨kc_Gi_init, rfl, rfl, z_mem 976 (by decide +kernel) rfl, Or.inl (z_mem 1008 (by decide +kernel) rfl)⟩
theorem k_Tw_1 : kI "WindBrides$Twice" 1 M_Br_init 3 := ⟨kc_Br_init, rfl, rfl, z_mem 1006 (by decide +kernel) rfl, Or.inl (z_mem 1020 (by decide +kernel) rfl)⟩
theorem k_La_1 : kI "WindBrides$Late" 1 M_Gi_init 3 := ⟨kc_Gi_init, rfl, rfl, z_mem 976 (by decide +kernel) rfl, Or.inl (z_mem 1032 (by decide +kernel) rfl)⟩
theorem k_Ca_1 : kI "WindBrides$Calm" 1 M_La_init 3 := ⟨kc_La_init, rfl, rfl, z_mem 1030 (by decide +kernel) rfl, Or.inl (z_mem 1044 (by decide +kernel) rfl)⟩
set_option maxRecDepth 20000 in
theorem kc_Gi_begins : kC M_Gi_begins 1 := ⟨z_mem 1075 (by rfl) rfl, z_mem 114 (by decide +kernel) rfl, ⟨by decide, by decide⟩, by decide +kernel, by decide⟩
theorem k_Sh_7_8 : kU "WindBrides$Shared" 7 8 ⟨"WindBrides$Shared", "begins", "(I)V"⟩ "WindBrides$Girl" M_Gi_begins 1 := ⟨kc_Gi_begins, rfl, ⟨by decide, by decide⟩, _, _, _, rfl, z_mem 1070 (by decide +kernel) rfl, z_mem 1071 (by decide +kernel) rfl, Or.inr (z_memN 1072 (by decide +kernel) rfl), z_mem 1073 (by decide +kernel) rfl, z_mem 1074 (by decide +kernel) rfl⟩
theorem k_Sh_13 : kP "WindBrides$Shared" 13 M_Gi_sails 1 := ⟨kc_Gi_sails, z_mem 1076 (by decide +kernel) rfl, z_mem 1063 (by decide +kernel) rfl, z_mem 1002 (by decide +kernel) rfl, z_mem 1061 (by decide +kernel) rfl, by decide⟩
theorem f_Gi_20_1 : zF "WindBrides$Girl" 20 1 4 .boolean false := ⟨R_Br, F_Br, 5, "WindBrides$Girl", t_Br, rfl, by decide, i_Br, z_mem 990 (by decide +kernel) rfl, Or.inl rfl, t_Br_ok, n_Br, rfl, by decide +kernel, by intro h; cases h⟩
theorem f_Gi_20_2 : zF "WindBrides$Girl" 20 2 4 .boolean false := ⟨R_Ca, F_Ca, 5, "WindBrides$Girl", t_Ca, rfl, by decide, i_Ca, z_mem 990 (by decide +kernel) rfl, Or.inl rfl, t_Ca_ok, n_Ca, rfl, by decide +kernel, by intro h; cases h⟩
theorem f_Gi_20_5 : zF "WindBrides$Girl" 20 5 4 .boolean false := ⟨R_Gi, F_Gi, 5, "WindBrides$Girl", t_Gi, rfl, by decide, i_Gi, z_mem 990 (by decide +kernel) rfl, Or.inl rfl, t_Gi_ok, n_Gi, rfl, by decide +kernel, by intro h; cases h⟩
theorem f_Gi_20_6 : zF "WindBrides$Girl" 20 6 4 .boolean false := ⟨R_La, F_La, 5, "WindBrides$Girl", t_La, rfl, by decide, i_La, z_mem 990 (by decide +kernel) rfl, Or.inl rfl, t_La_ok, n_La, rfl, by decide +kernel, by intro h; cases h⟩
theorem f_Gi_20_8 : zF "WindBrides$Girl" 20 8 4 .boolean false := ⟨R_Sh, F_Sh, 5, "WindBrides$Girl", t_Sh, rfl, by decide, i_Sh, z_mem 990 (by decide +kernel) rfl, Or.inl rfl, t_Sh_ok, n_Sh, rfl, by decide +kernel, by intro h; cases h⟩
theorem f_Gi_20_10 : zF "WindBrides$Girl" 20 10 4 .boolean false := ⟨R_Tw, F_Tw, 5, "WindBrides$Girl", t_Tw, rfl, by decide, i_Tw, z_mem 990 (by decide +kernel) rfl, Or.inl rfl, t_Tw_ok, n_Tw, rfl, by decide +kernel, by intro h; cases h⟩
theorem f_Gi_24_1 : zF "WindBrides$Girl" 24 1 3 .int false := ⟨R_Br, F_Br, 5, "WindBrides$Girl", t_Br, rfl, by decide, i_Br, z_mem 988 (by decide +kernel) rfl, Or.inl rfl, t_Br_ok, n_Br, rfl, by decide +kernel, by intro h; cases h⟩
theorem f_Gi_24_2 : zF "WindBrides$Girl" 24 2 3 .int false := ⟨R_Ca, F_Ca, 5, "WindBrides$Girl", t_Ca, rfl, by decide, i_Ca, z_mem 988 (by decide +kernel) rfl, Or.inl rfl, t_Ca_ok, n_Ca, rfl, by decide +kernel, by intro h; cases h⟩
theorem f_Gi_24_5 : zF "WindBrides$Girl" 24 5 3 .int false := ⟨R_Gi, F_Gi, 5, "WindBrides$Girl", t_Gi, rfl, by decide, i_Gi, z_mem 988 (by decide +kernel) rfl, Or.inl rfl, t_Gi_ok, n_Gi, rfl, by decide +kernel, by intro h; cases h⟩
theorem f_Gi_24_6 : zF "WindBrides$Girl" 24 6 3 .int false := ⟨R_La, F_La, 5, "WindBrides$Girl", t_La, rfl, by decide, i_La, z_mem 988 (by decide +kernel) rfl, Or.inl rfl, t_La_ok, n_La, rfl, by decide +kernel, by intro h; cases h⟩
theorem f_Gi_24_8 : zF "WindBrides$Girl" 24 8 3 .int false := ⟨R_Sh, F_Sh, 5, "WindBrides$Girl", t_Sh, rfl, by decide, i_Sh, z_mem 988 (by decide +kernel) rfl, Or.inl rfl, t_Sh_ok, n_Sh, rfl, by decide +kernel, by intro h; cases h⟩
theorem f_Gi_24_10 : zF "WindBrides$Girl" 24 10 3 .int false := ⟨R_Tw, F_Tw, 5, "WindBrides$Girl", t_Tw, rfl, by decide, i_Tw, z_mem 988 (by decide +kernel) rfl, Or.inl rfl, t_Tw_ok, n_Tw, rfl, by decide +kernel, by intro h; cases h⟩
theorem k_Tw_7_10 : kU "WindBrides$Twice" 7 10 ⟨"WindBrides$Twice", "begins", "(I)V"⟩ "WindBrides$Girl" M_Gi_begins 1 := ⟨kc_Gi_begins, rfl, ⟨by decide, by decide⟩, _, _, _, rfl, z_mem 1080 (by decide +kernel) rfl, z_mem 1081 (by decide +kernel) rfl, Or.inr (z_memN 1072 (by decide +kernel) rfl), z_mem 1082 (by decide +kernel) rfl, z_mem 1074 (by decide +kernel) rfl⟩
theorem k_Gi_27_1 : kU "WindBrides$Girl" 27 1 ⟨"WindBrides$Girl", "begins", "(I)V"⟩ "WindBrides$Girl" M_Gi_begins 1 := ⟨kc_Gi_begins, rfl, ⟨by decide, by decide⟩, _, _, _, rfl, z_mem 1087 (by decide +kernel) rfl, z_mem 1809 (by decide +kernel) rfl, Or.inr (z_memN 1072 (by decide +kernel) rfl), z_mem 1810 (by decide +kernel) rfl, z_mem 1074 (by decide +kernel) rfl⟩
theorem k_Gi_27_2 : kU "WindBrides$Girl" 27 2 ⟨"WindBrides$Girl", "begins", "(I)V"⟩ "WindBrides$Girl" M_Gi_begins 1 := ⟨kc_Gi_begins, rfl, ⟨by decide, by decide⟩, _, _, _, rfl, z_mem 1087 (by decide +kernel) rfl, z_mem 1809 (by decide +kernel) rfl, Or.inr (z_memN 1072 (by decide +kernel) rfl), z_mem 1811 (by decide +kernel) rfl, z_mem 1074 (by decide +kernel) rfl⟩
theorem k_Gi_27_5 : kU "WindBrides$Girl" 27 5 ⟨"WindBrides$Girl", "begins", "(I)V"⟩ "WindBrides$Girl" M_Gi_begins 1 := ⟨kc_Gi_begins, rfl, ⟨by decide, by decide⟩, _, _, _, rfl, z_mem 1087 (by decide +kernel) rfl, z_mem 1809 (by decide +kernel) rfl, Or.inr (z_memN 1072 (by decide +kernel) rfl), z_mem 1812 (by decide +kernel) rfl, z_mem 1074 (by decide +kernel) rfl⟩
theorem k_Gi_27_6 : kU "WindBrides$Girl" 27 6 ⟨"WindBrides$Girl", "begins", "(I)V"⟩ "WindBrides$Girl" M_Gi_begins 1 := ⟨kc_Gi_begins, rfl, ⟨by decide, by decide⟩, _, _, _, rfl, z_mem 1087 (by decide +kernel) rfl, z_mem 1809 (by decide +kernel) rfl, Or.inr (z_memN 1072 (by decide +kernel) rfl), z_mem 1813 (by decide +kernel) rfl, z_mem 1074 (by decide +kernel) rfl⟩
theorem k_Gi_27_8 : kU "WindBrides$Girl" 27 8 ⟨"WindBrides$Girl", "begins", "(I)V"⟩ "WindBrides$Girl" M_Gi_begins 1 := ⟨kc_Gi_begins, rfl, ⟨by decide, by decide⟩, _, _, _, rfl, z_mem 1087 (by decide +kernel) rfl, z_mem 1809 (by decide +kernel) rfl, Or.inr (z_memN 1072 (by decide +kernel) rfl), z_mem 1814 (by decide +kernel) rfl, z_mem 1074 (by decide +kernel) rfl⟩
theorem k_Gi_27_10 : kU "WindBrides$Girl" 27 10 ⟨"WindBrides$Girl", "begins", "(I)V"⟩ "WindBrides$Girl" M_Gi_begins 1 := ⟨kc_Gi_begins, rfl, ⟨by decide, by decide⟩, _, _, _, rfl, z_mem 1087 (by decide +kernel) rfl, z_mem 1809 (by decide +kernel) rfl, Or.inr (z_memN 1072 (by decide +kernel) rfl), z_mem 1815 (by decide +kernel) rfl, z_mem 1074 (by decide +kernel) rfl⟩
theorem k_Br_7_1 : kU "WindBrides$Bred" 7 1 ⟨"WindBrides$Bred", "begins", "(I)V"⟩ "WindBrides$Girl" M_Gi_begins 1 := ⟨kc_Gi_begins, rfl, ⟨by decide, by decide⟩, _, _, _, rfl, z_mem 1095 (by decide +kernel) rfl, z_mem 1096 (by decide +kernel) rfl, Or.inr (z_memN 1072 (by decide +kernel) rfl), z_mem 1097 (by decide +kernel) rfl, z_mem 1074 (by decide +kernel) rfl⟩
theorem k_Br_7_10 : kU "WindBrides$Bred" 7 10 ⟨"WindBrides$Bred", "begins", "(I)V"⟩ "WindBrides$Girl" M_Gi_begins 1 := ⟨kc_Gi_begins, rfl, ⟨by decide, by decide⟩, _, _, _, rfl, z_mem 1095 (by decide +kernel) rfl, z_mem 1096 (by decide +kernel) rfl, Or.inr (z_memN 1072 (by decide +kernel) rfl), z_mem 1098 (by decide +kernel) rfl, z_mem 1074 (by decide +kernel) rfl⟩
theorem k_Br_13 : kP "WindBrides$Bred" 13 M_Gi_calls 1 := ⟨kc_Gi_calls, z_mem 1099 (by decide +kernel) rfl, z_mem 1091 (by decide +kernel) rfl, z_mem 1014 (by decide +kernel) rfl, z_mem 1089 (by decide +kernel) rfl, by decide⟩
theorem f_Br_17_1 : zFr "WindBrides$Bred" 17 1 0 := ⟨R_Br, F_Br, 5, "WindBrides$Bred", rfl, by decide, i_Br, z_mem 980 (by decide +kernel) rfl, Or.inr (z_mem 981 (by decide +kernel) rfl)⟩
theorem f_Br_17_10 : zFr "WindBrides$Bred" 17 10 0 := ⟨R_Tw, F_Tw, 5, "WindBrides$Bred", rfl, by decide, i_Tw, z_mem 980 (by decide +kernel) rfl, Or.inr (z_mem 981 (by decide +kernel) rfl)⟩
theorem k_Ca_7_2 : kU "WindBrides$Calm" 7 2 ⟨"WindBrides$Calm", "begins", "(I)V"⟩ "WindBrides$Girl" M_Gi_begins 1 := ⟨kc_Gi_begins, rfl, ⟨by decide, by decide⟩, _, _, _, rfl, z_mem 1103 (by decide +kernel) rfl, z_mem 1104 (by decide +kernel) rfl, Or.inr (z_memN 1072 (by decide +kernel) rfl), z_mem 1105 (by decide +kernel) rfl, z_mem 1074 (by decide +kernel) rfl⟩
theorem k_Gi_31_1 : kU "WindBrides$Girl" 31 1 ⟨"WindBrides$Girl", "sails", "(I)I"⟩ "WindBrides$Girl" M_Gi_sails 1 := ⟨kc_Gi_sails, rfl, ⟨by decide, by decide⟩, _, _, _, rfl, z_mem 1113 (by decide +kernel) rfl, z_mem 1063 (by decide +kernel) rfl, Or.inr (z_memN 1085 (by decide +kernel) rfl), z_mem 1064 (by decide +kernel) rfl, z_mem 1061 (by decide +kernel) rfl⟩
theorem k_Gi_31_2 : kU "WindBrides$Girl" 31 2 ⟨"WindBrides$Girl", "sails", "(I)I"⟩ "WindBrides$Girl" M_Gi_sails 1 := ⟨kc_Gi_sails, rfl, ⟨by decide, by decide⟩, _, _, _, rfl, z_mem 1113 (by decide +kernel) rfl, z_mem 1063 (by decide +kernel) rfl, Or.inr (z_memN 1085 (by decide +kernel) rfl), z_mem 1065 (by decide +kernel) rfl, z_mem 1061 (by decide +kernel) rfl⟩
theorem k_Gi_31_5 : kU "WindBrides$Girl" 31 5 ⟨"WindBrides$Girl", "sails", "(I)I"⟩ "WindBrides$Girl" M_Gi_sails 1 := ⟨kc_Gi_sails, rfl, ⟨by decide, by decide⟩, _, _, _, rfl, z_mem 1113 (by decide +kernel) rfl, z_mem 1063 (by decide +kernel) rfl, Or.inr (z_memN 1085 (by decide +kernel) rfl), z_mem 1062 (by decide +kernel) rfl, z_mem 1061 (by decide +kernel) rfl⟩
theorem k_Gi_31_6 : kU "WindBrides$Girl" 31 6 ⟨"WindBrides$Girl", "sails", "(I)I"⟩ "WindBrides$Girl" M_Gi_sails 1 := ⟨kc_Gi_sails, rfl, ⟨by decide, by decide⟩, _, _, _, rfl, z_mem 1113 (by decide +kernel) rfl, z_mem 1063 (by decide +kernel) rfl, Or.inr (z_memN 1085 (by decide +kernel) rfl), z_mem 1066 (by decide +kernel) rfl, z_mem 1061 (by decide +kernel) rfl⟩
theorem k_Gi_31_8 : kU "WindBrides$Girl" 31 8 ⟨"WindBrides$Girl", "sails", "(I)I"⟩ "WindBrides$Girl" M_Sh_sails 1 := ⟨kc_Sh_sails, rfl, ⟨by decide, by decide⟩, _, _, _, rfl, z_mem 1113 (by decide +kernel) rfl, z_mem 1063 (by decide +kernel) rfl, Or.inr (z_memN 1085 (by decide +kernel) rfl), z_mem 1067 (by decide +kernel) rfl, z_mem 1068 (by decide +kernel) rfl⟩
theorem k_Gi_31_10 : kU "WindBrides$Girl" 31 10 ⟨"WindBrides$Girl", "sails", "(I)I"⟩ "WindBrides$Girl" M_Tw_sails 1 := ⟨kc_Tw_sails, rfl, ⟨by decide, by decide⟩, _, _, _, rfl, z_mem 1113 (by decide +kernel) rfl, z_mem 1063 (by decide +kernel) rfl, Or.inr (z_memN 1085 (by decide +kernel) rfl), z_mem 1077 (by decide +kernel) rfl, z_mem 1078 (by decide +kernel) rfl⟩
theorem k_Ca_17 : kP "WindBrides$Calm" 17 M_La_shares 1 := ⟨kc_La_shares, z_mem 1122 (by decide +kernel) rfl, z_mem 1816 (by decide +kernel) rfl, z_mem 1050 (by decide +kernel) rfl, z_mem 1123 (by decide +kernel) rfl, by decide⟩
theorem f_Ca_20_2 : zFr "WindBrides$Calm" 20 2 0 := ⟨R_Ca, F_Ca, 5, "WindBrides$Calm", rfl, by decide, i_Ca, z_mem 982 (by decide +kernel) rfl, Or.inr (z_mem 983 (by decide +kernel) rfl)⟩
theorem k_Ca_24_2 : kU "WindBrides$Calm" 24 2 ⟨"WindBrides$Calm", "sails", "(I)I"⟩ "WindBrides$Girl" M_Gi_sails 1 := ⟨kc_Gi_sails, rfl, ⟨by decide, by decide⟩, _, _, _, rfl, z_mem 1130 (by decide +kernel) rfl, z_mem 1131 (by decide +kernel) rfl, Or.inr (z_memN 1085 (by decide +kernel) rfl), z_mem 1132 (by decide +kernel) rfl, z_mem 1061 (by decide +kernel) rfl⟩
theorem k_La_7_2 : kU "WindBrides$Late" 7 2 ⟨"WindBrides$Late", "begins", "(I)V"⟩ "WindBrides$Girl" M_Gi_begins 1 := ⟨kc_Gi_begins, rfl, ⟨by decide, by decide⟩, _, _, _, rfl, z_mem 1125 (by decide +kernel) rfl, z_mem 1126 (by decide +kernel) rfl, Or.inr (z_memN 1072 (by decide +kernel) rfl), z_mem 1127 (by decide +kernel) rfl, z_mem 1074 (by decide +kernel) rfl⟩
theorem k_La_7_6 : kU "WindBrides$Late" 7 6 ⟨"WindBrides$Late", "begins", "(I)V"⟩ "WindBrides$Girl" M_Gi_begins 1 := ⟨kc_Gi_begins, rfl, ⟨by decide, by decide⟩, _, _, _, rfl, z_mem 1125 (by decide +kernel) rfl, z_mem 1126 (by decide +kernel) rfl, Or.inr (z_memN 1072 (by decide +kernel) rfl), z_mem 1128 (by decide +kernel) rfl, z_mem 1074 (by decide +kernel) rfl⟩
theorem k_La_13 : kP "WindBrides$Late" 13 M_Gi_shares 1 := ⟨kc_Gi_shares, z_mem 1129 (by decide +kernel) rfl, z_mem 1117 (by decide +kernel) rfl, z_mem 1038 (by decide +kernel) rfl, z_mem 1115 (by decide +kernel) rfl, by decide⟩
theorem f_Tw_20_10 : zFr "WindBrides$Twice" 20 10 1 := ⟨R_Tw, F_Tw, 5, "WindBrides$Twice", rfl, by decide, i_Tw, z_mem 985 (by decide +kernel) rfl, Or.inr (z_mem 986 (by decide +kernel) rfl)⟩
theorem k_Tw_24_10 : kU "WindBrides$Twice" 24 10 ⟨"WindBrides$Twice", "calls", "(I)I"⟩ "WindBrides$Bred" M_Br_calls 1 := ⟨kc_Br_calls, rfl, ⟨by decide, by decide⟩, _, _, _, rfl, z_mem 1151 (by decide +kernel) rfl, z_mem 1152 (by decide +kernel) rfl, Or.inr (z_memN 1153 (by decide +kernel) rfl), z_mem 1154 (by decide +kernel) rfl, z_mem 1093 (by decide +kernel) rfl⟩
theorem k_Gi_35_1 : kU "WindBrides$Girl" 35 1 ⟨"WindBrides$Girl", "calls", "(I)I"⟩ "WindBrides$Girl" M_Br_calls 1 := ⟨kc_Br_calls, rfl, ⟨by decide, by decide⟩, _, _, _, rfl, z_mem 1156 (by decide +kernel) rfl, z_mem 1091 (by decide +kernel) rfl, Or.inr (z_memN 1108 (by decide +kernel) rfl), z_mem 1092 (by decide +kernel) rfl, z_mem 1093 (by decide +kernel) rfl⟩
theorem k_Gi_35_2 : kU "WindBrides$Girl" 35 2 ⟨"WindBrides$Girl", "calls", "(I)I"⟩ "WindBrides$Girl" M_Ca_calls 1 := ⟨kc_Ca_calls, rfl, ⟨by decide, by decide⟩, _, _, _, rfl, z_mem 1156 (by decide +kernel) rfl, z_mem 1091 (by decide +kernel) rfl, Or.inr (z_memN 1108 (by decide +kernel) rfl), z_mem 1100 (by decide +kernel) rfl, z_mem 1101 (by decide +kernel) rfl⟩
theorem k_Gi_35_5 : kU "WindBrides$Girl" 35 5 ⟨"WindBrides$Girl", "calls", "(I)I"⟩ "WindBrides$Girl" M_Gi_calls 1 := ⟨kc_Gi_calls, rfl, ⟨by decide, by decide⟩, _, _, _, rfl, z_mem 1156 (by decide +kernel) rfl, z_mem 1091 (by decide +kernel) rfl, Or.inr (z_memN 1108 (by decide +kernel) rfl), z_mem 1090 (by decide +kernel) rfl, z_mem 1089 (by decide +kernel) rfl⟩
theorem k_Gi_35_6 : kU "WindBrides$Girl" 35 6 ⟨"WindBrides$Girl", "calls", "(I)I"⟩ "WindBrides$Girl" M_Gi_calls 1 := ⟨kc_Gi_calls, rfl, ⟨by decide, by decide⟩, _, _, _, rfl, z_mem 1156 (by decide +kernel) rfl, z_mem 1091 (by decide +kernel) rfl, Or.inr (z_memN 1108 (by decide +kernel) rfl), z_mem 1109 (by decide +kernel) rfl, z_mem 1089 (by decide +kernel) rfl⟩
theorem k_Gi_35_8 : kU "WindBrides$Girl" 35 8 ⟨"WindBrides$Girl", "calls", "(I)I"⟩ "WindBrides$Girl" M_Gi_calls 1 := ⟨kc_Gi_calls, rfl, ⟨by decide, by decide⟩, _, _, _, rfl, z_mem 1156 (by decide +kernel) rfl, z_mem 1091 (by decide +kernel) rfl, Or.inr (z_memN 1108 (by decide +kernel) rfl), z_mem 1110 (by decide +kernel) rfl, z_mem 1089 (by decide +kernel) rfl⟩
