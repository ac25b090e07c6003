/-! THE CLAIM OUT OF ONE WALK OF THE LAW'S BODY. Your part is whole_start (and what it stands on); all else here is the same for every law, but numbers. -/
def R_law : String := "WindBridesLaw"
def lw_P (b : Addr) (xs : List Int32) (args : Array Value) (s : State) : Prop := args = #[.ref b] ∧ s.IntsAt b xs ∧ xs.length ≤ 2560 ∧ (Jvm.Cond.and given_1 narrow_1).before args s = true
def lw_Q (_ : Array Value) (s : State) (o : Outcome) (t : State) : Prop := o = .returned (some (.int 1)) ∧ Framed s o t [] 600000 7302250
def lw_Z (below : List Frame) (a : Array Value) (s : State) : State → Prop := fun t => ∃ o, t.status = .running ∧ Ended t below o ∧ lw_Q a s o t
/-- what holds at the law's entry: the machine, the code, the tables' words (any of lw_tbl by 'hts w (by decide +kernel)'), the script of L ints xs at the cell b, what the Statement gives of the start (any of its parts by flat_of_before) -/
def lw_At (p : Program) (s : State) (m : MethodId) (meth : Method) (c : Code) (b L : Nat) (xs : Nat → Int32) : Prop :=
  p.tables.exec = Jvm.exec ∧ c.code = code ∧ meth.sig.returnType = ret ∧ c.maxLocals = 4 ∧ s.vm.findClass R_law = some m.cls ∧ (∀ w ∈ lw_tbl, w.before #[Value.ref b] s = true) ∧ va_X b L xs s s.heap ∧ b < s.heap.size ∧ meth.locks = false ∧ (Jvm.Cond.and given_1 narrow_1).before #[Value.ref b] s = true
/-! ===== the law's entry: what the Statement gives there, by its places ===== -/
def zFl : List Cond := flatC (Jvm.Cond.and given_1 narrow_1)
theorem fl_at {N k : Nat} {f : Nat → Cond} (h : (zFl.drop k).take N = (List.range N).map f) {j : Nat} (hj : j < N) : f j ∈ zFl := by
  have q : f j ∈ (zFl.drop k).take N := by rw [h]; exact List.mem_map.mpr ⟨j, List.mem_range.mpr hj, rfl⟩
  exact List.mem_of_mem_drop (List.mem_of_mem_take q)
theorem fl_p (i : Nat) {w : Cond} (h : zFl[i]? = some w) : w ∈ zFl := List.mem_of_getElem? h
set_option maxRecDepth 100000 in
theorem fl_lin : (zFl.drop 7).take 6 = (List.range 6).map (fun j => Cond.eq (.elem (.static "WindBrides" "LINEAGE" "[I") (.int (Int32.ofNat j))) (.int (zLin.getD j 0))) := by decide +kernel
set_option maxRecDepth 100000 in
theorem fl_nam : (zFl.drop 21).take 108 = (List.range 108).map (fun j => Cond.eq (.elem (.static "WindBridesModel" "NAMES" "[I") (.int (Int32.ofNat j))) (.int (zNam.getD j 0))) := by decide +kernel
set_option maxRecDepth 100000 in
theorem fl_byt : (zFl.drop 133).take 126 = (List.range 126).map (fun j => Cond.eq (.elem (.field (.string "WindBrides$Tape" 68) "java/lang/String" "value" "[B") (.int (Int32.ofNat j))) (.int (zWordB.getD j 0))) := by decide +kernel
set_option maxRecDepth 100000 in
theorem z_K0 {s : State} {args : Array Value} (hts : ∀ w ∈ zT, w.before args s = true) (hao : (Cond.arrayOver (.object "WindBrides$Course")).before args s = true) : ∃ (D : va_G) (A : Nat → ClassId), va_K D zCl [(A 0, .int), (A 1, .boolean), (A 2, .long), (A 3, .object "WindBrides$Course")] s := by
  obtain ⟨c0, j0, h0⟩ := u_known (C := R_Bk) (T := F_Bk) (N := 6) (n := 6) hts i_Bk (hts (.instantiable R_Bk 6) (z_mem 165 (by decide +kernel) rfl))
  obtain ⟨c1, j1, h1⟩ := u_known (C := R_Br) (T := F_Br) (N := 5) (n := 5) hts i_Br (hts (.instantiable R_Br 5) (z_mem 1004 (by decide +kernel) rfl))
  obtain ⟨c2, j2, h2⟩ := u_known (C := R_Ca) (T := F_Ca) (N := 5) (n := 5) hts i_Ca (hts (.instantiable R_Ca 5) (z_mem 1040 (by decide +kernel) rfl))
  obtain ⟨c3, j3, h3⟩ := u_known (C := R_Co) (T := F_Co) (N := 17) (n := 17) hts i_Co (hts (.instantiable R_Co 17) (z_mem 129 (by decide +kernel) rfl))
  obtain ⟨c4, j4, h4⟩ := u_known (C := R_Cr) (T := F_Cr) (N := 5) (n := 5) hts i_Cr (hts (.instantiable R_Cr 5) (z_mem 135 (by decide +kernel) rfl))
  obtain ⟨c5, j5, h5⟩ := u_known (C := R_Gi) (T := F_Gi) (N := 5) (n := 5) hts i_Gi (hts (.instantiable R_Gi 5) (z_mem 1052 (by decide +kernel) rfl))
  obtain ⟨c6, j6, h6⟩ := u_known (C := R_La) (T := F_La) (N := 5) (n := 5) hts i_La (hts (.instantiable R_La 5) (z_mem 1028 (by decide +kernel) rfl))
  obtain ⟨c7, j7, h7⟩ := u_known (C := R_Pl) (T := F_Pl) (N := 13) (n := 13) hts i_Pl (hts (.instantiable R_Pl 13) (z_mem 295 (by decide +kernel) rfl))
  obtain ⟨c8, j8, h8⟩ := u_known (C := R_Sh) (T := F_Sh) (N := 5) (n := 5) hts i_Sh (hts (.instantiable R_Sh 5) (z_mem 971 (by decide +kernel) rfl))
  obtain ⟨c9, j9, h9⟩ := u_known (C := R_Ta) (T := F_Ta) (N := 5) (n := 5) hts i_Ta (hts (.instantiable R_Ta 5) (z_mem 270 (by decide +kernel) rfl))
  obtain ⟨c10, j10, h10⟩ := u_known (C := R_Tw) (T := F_Tw) (N := 5) (n := 5) hts i_Tw (hts (.instantiable R_Tw 5) (z_mem 1016 (by decide +kernel) rfl))
  obtain ⟨c11, j11, h11⟩ := u_known (C := R_Wb) (T := F_Wb) (N := 15) (n := 15) hts i_Wb (hts (.instantiable R_Wb 15) (z_mem 121 (by decide +kernel) rfl))
  obtain ⟨c12, j12, h12⟩ := u_known (C := R_Mo) (T := F_Mo) (N := 34) (n := 34) hts i_Mo (hts (.instantiable R_Mo 34) (z_mem 1189 (by decide +kernel) rfl))
  obtain ⟨x1, y1, z1, a1, a2, a3⟩ := Cond.arrayClass_spec (hts (.arrayClass .int) ka_int)
  obtain ⟨x2, y2, z2, b1, b2, b3⟩ := Cond.arrayClass_spec (hts (.arrayClass .boolean) ka_boo)
  obtain ⟨x3, y3, z3, d1, d2, d3⟩ := Cond.arrayClass_spec (hts (.arrayClass .long) ka_lon)
  obtain ⟨w, x4, y4, e1, -, e2, e3, e4⟩ := Cond.arrayOver_spec hao
  refine ⟨(fun k => match k with | 0 => c0 | 1 => c1 | 2 => c2 | 3 => c3 | 4 => c4 | 5 => c5 | 6 => c6 | 7 => c7 | 8 => c8 | 9 => c9 | 10 => c10 | 11 => c11 | _ => c12, fun k => match k with | 0 => j0 | 1 => j1 | 2 => j2 | 3 => j3 | 4 => j4 | 5 => j5 | 6 => j6 | 7 => j7 | 8 => j8 | 9 => j9 | 10 => j10 | 11 => j11 | _ => j12), fun k => match k with | 0 => x1 | 1 => x2 | 2 => x3 | _ => x4, ?_, ?_⟩
  · intro k q hq
    match k, hq with
    | 0, hq => cases hq; exact h0
    | 1, hq => cases hq; exact h1
    | 2, hq => cases hq; exact h2
    | 3, hq => cases hq; exact h3
    | 4, hq => cases hq; exact h4
    | 5, hq => cases hq; exact h5
    | 6, hq => cases hq; exact h6
    | 7, hq => cases hq; exact h7
    | 8, hq => cases hq; exact h8
    | 9, hq => cases hq; exact h9
    | 10, hq => cases hq; exact h10
    | 11, hq => cases hq; exact h11
    | 12, hq => cases hq; exact h12
    | k + 13, hq => simp at hq
  · intro k q hq
    match k, hq with
    | 0, hq => cases hq; exact ⟨fun n z => ⟨fun k h => (by cases h), y1, a2, z1, a3⟩, a1⟩
    | 1, hq => cases hq; exact ⟨fun n z => ⟨fun k h => (by cases h), y2, b2, z2, b3⟩, b1⟩
    | 2, hq => cases hq; exact ⟨fun n z => ⟨fun k h => (by cases h), y3, d2, z3, d3⟩, d1⟩
    | 3, hq => cases hq; exact ⟨fun n z => ⟨fun k h => (by cases h), y4, e2, w, e3⟩, y4, w, e2, e3, e1, e4⟩
    | k + 4, hq => simp at hq
set_option maxRecDepth 100000 in
theorem z_O0 {p : Program} {s : State} {m : MethodId} {meth : Method} {c : Code} {l : Launch} {b L : Nat} {xs : Nat → Int32} (C0 : lw_At p s m meth c b L xs) : ∃ G : zG, zl G = l ∧ zb G = s.heap.size ∧ zsp G 2 = b ∧ zL G = L ∧ zH G = s.heap ∧ zO G s := by
  obtain ⟨hx, hb, hr, hml, hown, hts, hX, hbl, hlocks, hgv⟩ := C0
  have hs : ∀ w ∈ zFl, w.before #[Value.ref b] s = true := flat_of_before _ hgv
  have hz : ∀ w ∈ zT, w.before #[Value.ref b] s = true := fun w hw => hts w (List.mem_filter.mp hw).1
  have hA : ∀ a : Nat, a < s.heap.size → ¬ (fun q : Nat => s.heap.size ≤ q) a := fun a h q => absurd h (Nat.not_lt.mpr q)
  have hao : (Cond.arrayOver (.object "WindBrides$Course")).before #[Value.ref b] s = true := (hts _ (List.mem_of_getElem? (i := 301) (by decide +kernel)))
  obtain ⟨D, A, hK⟩ := z_K0 hz hao
  have q5 : (Cond.arrayOf (.static "WindBrides" "LINEAGE" "[I") .int).before #[Value.ref b] s = true := hs _ (fl_p 5 (by decide +kernel))
  have q6 : (Cond.eq (.length (.static "WindBrides" "LINEAGE" "[I")) (.int (Int32.ofNat 6))).before #[Value.ref b] s = true := hs _ (fl_p 6 (by decide +kernel))
  have q7 : ∀ j, j < 6 → (Cond.eq (.elem (.static "WindBrides" "LINEAGE" "[I") (.int (Int32.ofNat j))) (.int (zLin.getD j 0))).before #[Value.ref b] s = true := fun j hj => hs _ (fl_at fl_lin hj)
  have q19 : (Cond.arrayOf (.static "WindBridesModel" "NAMES" "[I") .int).before #[Value.ref b] s = true := hs _ (fl_p 19 (by decide +kernel))
  have q20 : (Cond.eq (.length (.static "WindBridesModel" "NAMES" "[I")) (.int (Int32.ofNat 108))).before #[Value.ref b] s = true := hs _ (fl_p 20 (by decide +kernel))
  have q21 : ∀ j, j < 108 → (Cond.eq (.elem (.static "WindBridesModel" "NAMES" "[I") (.int (Int32.ofNat j))) (.int (zNam.getD j 0))).before #[Value.ref b] s = true := fun j hj => hs _ (fl_at fl_nam hj)
  have q13 : (Cond.eq (.static "java/lang/String" "COMPACT_STRINGS" "Z") (.int 1)).before #[Value.ref b] s = true := hs _ (fl_p 13 (by decide +kernel))
  have q14 : (Cond.isRef (.static "jdk/internal/util/Preconditions" "SIOOBE_FORMATTER" "Ljava/util/function/BiFunction;")).before #[Value.ref b] s = true := hs _ (fl_p 14 (by decide +kernel))
  have q129 : (Cond.exactly (.string "WindBrides$Tape" 68) "java/lang/String").before #[Value.ref b] s = true := hs _ (fl_p 129 (by decide +kernel))
  have q130 : (Cond.eq (.field (.string "WindBrides$Tape" 68) "java/lang/String" "coder" "B") (.int 0)).before #[Value.ref b] s = true := hs _ (fl_p 130 (by decide +kernel))
  have q131 : (Cond.arrayOf (.field (.string "WindBrides$Tape" 68) "java/lang/String" "value" "[B") .byte).before #[Value.ref b] s = true := hs _ (fl_p 131 (by decide +kernel))
  have q132 : (Cond.eq (.length (.field (.string "WindBrides$Tape" 68) "java/lang/String" "value" "[B")) (.int (Int32.ofNat 126))).before #[Value.ref b] s = true := hs _ (fl_p 132 (by decide +kernel))
  have q133 : ∀ j, j < 126 → (Cond.eq (.elem (.field (.string "WindBrides$Tape" 68) "java/lang/String" "value" "[B") (.int (Int32.ofNat j))) (.int (zWordB.getD j 0))).before #[Value.ref b] s = true := fun j hj => hs _ (fl_at fl_byt hj)
  obtain ⟨t0, e0, T0⟩ := va_Tof (N := 6) (f := fun j => .int (zLin.getD j 0)) (A := fun q : Nat => s.heap.size ≤ q) (by decide) q5 (va_eqt q6) (fun j hj => va_eqt (q7 j hj)) hA
  obtain ⟨t1, e1, T1⟩ := va_Tof (N := 108) (f := fun j => .int (zNam.getD j 0)) (A := fun q : Nat => s.heap.size ≤ q) (by decide) q19 (va_eqt q20) (fun j hj => va_eqt (q21 j hj)) hA
  obtain ⟨adK, adV, hS1, hS2⟩ := vk_Sof (N := 1) (tm := fun _ => .string "WindBrides$Tape" 68) (len := [126]) (byt := [zWordB]) (A := fun q : Nat => s.heap.size ≤ q) (fun i hi => by
    obtain rfl : i = 0 := by omega
    decide) (fun i hi => q129) (fun i hi => q130) (fun i hi => q131) (fun i hi => by
    obtain rfl : i = 0 := by omega
    exact q132) (fun i hi => by
    obtain rfl : i = 0 := by omega
    exact fun j hj => q133 j hj) (fun i j hi hj hne => absurd (show i = j by omega) hne) hA
  obtain ⟨scr, k1, k2, k3, k4, k5⟩ := hX
  refine ⟨(l, s.heap.size, fun i => match i with | 0 => t0 | 1 => t1 | 2 => b | _ => adK 0, D, A, s.heap, L, xs), rfl, rfl, rfl, rfl, rfl, hK, fun w hw => ?_, va_AO.of hao, va_Zref (hts _ (List.mem_of_getElem? (i := 433) (by decide +kernel))) (hts _ (List.mem_of_getElem? (i := 101) (by decide +kernel))) e0 hA, va_Zref (hts _ (List.mem_of_getElem? (i := 1454) (by decide +kernel))) (hts _ (List.mem_of_getElem? (i := 107) (by decide +kernel))) e1 hA, T0, T1, ⟨scr, k1, k2, k3, Nat.le_of_eq k4.symm, by rw [k4], k5, hA b hbl⟩, vk_R.of (A := #[Value.ref b]) (hts (.stringRef "WindBrides$Tape" 68 zWords) (List.mem_of_getElem? (i := 555) (by decide +kernel))) (hS2 0 (by decide)), ⟨adV 0, fun i hi => ?_, fun i j hi hj _ => by omega⟩, va_Zof (hts _ (List.mem_of_getElem? (i := 565) (by decide +kernel))) (hts _ (List.mem_of_getElem? (i := 108) (by decide +kernel))) (va_eqi q13) hA, va_Zqof (hts _ (List.mem_of_getElem? (i := 573) (by decide +kernel))) (hts _ (List.mem_of_getElem? (i := 110) (by decide +kernel))) q14 hA, rfl⟩
  · obtain ⟨h1, h2⟩ := List.mem_filter.mp hw
    cases w <;> first | (simp [zisN] at h2; done) | exact va_Nw.of rfl (hts _ h1)
  · obtain rfl : i = 0 := by omega
    exact hS1.1 0 hi
set_option maxRecDepth 100000 in
/-- from the entry, for every script of at most 2560 ints, the law comes to its end with true -/
theorem whole_start {p : Program} {e : Env} {s : State} {m : MethodId} {below : List Frame} {meth : Method} {c : Code} (l : Launch) {b L : Nat} {xs : Nat → Int32} (hL : L ≤ 2560) (C0 : lw_At p s m meth c b L xs) (hnm : meth.name = x.name) : W p l e room_1 s m #[Value.ref b] below meth c s.heap [] 0 0 (lw_Z below #[Value.ref b] s) (entryFrame m ([Value.ref b] : List Value).toArray 4) := by
  obtain ⟨G, g0, g1, g2, g3, g4, hO⟩ := z_O0 (l := l) C0
  obtain ⟨hx, hb, hr, hml, hown, hts, hX, hbl, hlocks, hgv⟩ := C0
  subst g0
  have hz : ∀ w ∈ zT, w.before #[Value.ref b] s = true := fun w hw => hts w (List.mem_filter.mp hw).1
  obtain ⟨al, hal, hW⟩ := l_start (G := G) (by rw [g3]; exact hL)
  have hB : zB G 19 M_Lw_law p room_1 s m #[Value.ref b] meth c 4 0 (106 + al) (7429 + 5 * al) :=
    ⟨hx, hb, hr, hml, hown, hz, hO, hlocks, hnm, fun q _ => by rw [g4], by rw [g1]; rfl, K_Lw_law, by decide, by omega, by omega, Nat.le_of_ble_eq_true rfl, Nat.le_of_ble_eq_true rfl, by show 106 + al - 4 ≤ 600000; omega, by show 7429 + 5 * al - 0 ≤ 7302250; omega⟩
  have hR : zR G s.heap 4 (zspec G) := ⟨Nat.le_refl _, by rw [g1]; rfl, fun k q h => by simp [zws] at h, fun q _ => by rw [g4], fun i hi => by
    obtain ⟨k, rfl⟩ : ∃ k, i = k + 4 := ⟨i - 4, by omega⟩
    rfl, fun i _ => rfl⟩
  have hls := lv_entry ([.ref b]) (n := 4) (Nat.le_of_ble_eq_true rfl)
  rw [lg_entry_eq]
  generalize (lg_sl ([.ref b]) ++ List.replicate (4 - (lg_sl ([.ref b])).length) Slot.unset).toArray = ls at hls ⊢
  have hl : lv_has ls 4 [(0, .ref b)] := hls
  have hlv : zlv G ls (mL M_Lw_law) [.ref 2, .retAddr 0, .retAddr 0, .retAddr 0] := by
    show lv_has ls 4 [(0, .ref (za G 2))]
    rw [show za G 2 = b from g2]
    exact hl
  have k := hW (zspec G) p e room_1 s m #[Value.ref b] below meth c 4 0 hB (Nat.le_refl _) (Nat.le_refl _) s.heap [] ls hR (fun q hq => by cases hq) hlv
  intro T hT X
  obtain ⟨t, st, o, h1, h2, ⟨r, μ', ho, hr1, hR1⟩, Lc, hF, hfree⟩ := k T hT X
  have hr2 : r = some (.int (nI 1)) := hr1
  subst hr2
  refine ⟨t, st, o, h1, h2, ho, hF.1, hF.2.1, ?_⟩
  exact (State.sameButNew.drop_fresh (L := []) (J := Lc) hF.2.2 (fun y hy => by rw [← g1]; exact hfree y hy)).mono (by omega) (by omega)
