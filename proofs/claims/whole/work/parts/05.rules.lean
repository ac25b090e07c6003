section ZR
variable {G : zG} {d : Nat} {M : zM} {pc pc' : Nat} {lv st : List Value} {n u : Nat} {μ : Nat → va_E} {nF uF : Nat} {Φ : zP}
theorem z_dec (h : mOk M) {k : Nat} {i : Instr} {len : Nat} (hk : (mI M)[k]? = some (pc, i, len)) : decode (mC M) pc = .ok (i, len) := by
  have h1 := List.all_eq_true.mp h (pc, i, len) (List.mem_of_getElem? hk)
  exact of_decide_eq_true h1
theorem zB_ok {p : Program} {R : Room} {s : State} {m : MethodId} {args : Array Value} {meth : Method} {c : Code} {n0 u0 : Nat} (B : zB G d M p R s m args meth c n0 u0 nF uF) : mOk M := B.2.2.2.2.2.2.2.2.2.2.2.1
/-- the entry -/
def zsl : List Value → List Value
  | [] => []
  | v :: t => if v.category = 2 then v :: .retAddr 0 :: zsl t else v :: zsl t
def zent (as : List Value) (k : Nat) : List Value := zsl as ++ List.replicate (k - (zsl as).length) (.retAddr 0)
theorem zal_junk (G : zG) : ∀ (k j : Nat), zal G j (List.replicate k (.retAddr 0)) = []
  | 0, _ => rfl
  | k + 1, j => by rw [List.replicate_succ]; show (if zj (.retAddr 0) = true then _ else _) = _; rw [if_pos (show zj (.retAddr 0) = true from rfl)]; exact zal_junk G k (j + 1)
theorem zal_ent (G : zG) (k : Nat) : ∀ (as : List Value) (j : Nat), ∀ q ∈ zal G j (zsl as ++ List.replicate k (.retAddr 0)), q ∈ lv_args j (as.map (zv G))
  | [], j, q, h => by rw [show zsl [] = [] from rfl, List.nil_append, zal_junk] at h; cases h
  | v :: t, j, q, h => by
    rw [List.map_cons, lv_args, zv_cat]
    unfold zsl at h
    by_cases hc : v.category = 2
    · rw [if_pos hc] at h ⊢
      rw [List.cons_append, List.cons_append] at h
      unfold zal at h
      by_cases hv : zj v = true
      · cases v <;> simp [zj] at hv
        simp [Value.category] at hc
      · rw [if_neg hv] at h
        rcases List.mem_cons.mp h with h | h
        · exact List.mem_cons.mpr (Or.inl h)
        · unfold zal at h
          rw [if_pos (show zj (.retAddr 0) = true from rfl)] at h
          exact List.mem_cons_of_mem _ (zal_ent G k t (j + 2) q h)
    · rw [if_neg hc] at h ⊢
      rw [List.cons_append] at h
      unfold zal at h
      by_cases hv : zj v = true
      · rw [if_pos hv] at h
        exact List.mem_cons_of_mem _ (zal_ent G k t (j + 1) q h)
      · rw [if_neg hv] at h
        rcases List.mem_cons.mp h with h | h
        · exact List.mem_cons.mpr (Or.inl h)
        · exact List.mem_cons_of_mem _ (zal_ent G k t (j + 1) q h)
theorem zsl_len (G : zG) : ∀ as : List Value, (lg_sl (as.map (zv G))).length = (zsl as).length
  | [] => rfl
  | v :: t => by
    have ih := zsl_len G t
    unfold lg_sl at ih ⊢
    rw [List.map_cons, List.flatMap_cons, List.length_append, ih, zv_cat, zsl]
    by_cases hc : v.category = 2
    · rw [if_pos hc, if_pos hc]; simp; omega
    · rw [if_neg hc, if_neg hc]; simp; omega
theorem z_start {as : List Value} {n' u' : Nat} (hok : mOk M) (hy : plainName (mY M).cls = true) (hown : (mY M).cls = mO M) (hn : n ≤ n') (hu : u ≤ u') (hl : (zsl as).length ≤ mL M) (hlv : zent as (mL M) = lv)
    (h : zW G d M 0 lv [] n u μ n' u' Φ) : zMet G d M as n u μ n' u' Φ := by
  refine ⟨hn, hu, Met.ofW (cc := mC M) (maxL := mL M) (ret := mR M) hy rfl ?_⟩
  intro p e s m args below meth c s₁ B hml hv
  obtain ⟨rfl, hO, hR⟩ := hv
  have hts := atoms_spec (ws := zwd M) B.pre
  have hle : (lg_sl (as.map (zv G))).length ≤ mL M := by rw [zsl_len]; exact hl
  have hls := lv_entry (as.map (zv G)) (n := mL M) hle
  rw [lg_entry_eq]
  have hB : zB G d M p (headSpec (zwd M) (zRm d (n' - n) (u' - u))).room s m (as.map (zv G)).toArray meth c n u n' u' :=
    ⟨B.exec, B.bytes, B.returns, hml, by rw [← hown]; exact findClass_of_methodNamed B.named, fun w hw => hts w (List.mem_cons_of_mem _ hw), hO, B.notSynchronized, (name_of_methodNamed B.named B.method).1, hR.2.2.2.1, hR.2.1, hok, hR.1, hn, hu, Nat.le_refl _, Nat.le_refl _, Nat.le_refl _, Nat.le_refl _⟩
  have k := h p e _ s m _ below meth c n u hB (Nat.le_refl _) (Nat.le_refl _) s.heap [] _ hR (fun q hq => by cases hq) (by
    rw [← hlv]
    exact ⟨hls.1, hls.2.1, fun q hq => hls.2.2 q (zal_ent G _ as 0 q hq)⟩)
  rw [Nat.sub_self, Nat.sub_self] at k
  exact k
theorem z_iconst {i : Int} {v : Int32} (hv : Int32.ofInt i = v) (k : Nat) (hd : (mI M)[k]? = some (pc, .iconst i, 1)) (hp : pc + 1 = pc') (kk : zW G d M pc' (lv) (.int v :: st) n u μ nF uF Φ) : zW G d M pc (lv) (st) n u μ nF uF Φ := by
  subst hp
  intro p e R s m args below meth c n0 u0 B h1 h2 H locs ls hR hl hlv
  exact lv_iconst B.1 B.2.1 (z_dec (zB_ok B) hd) hv (kk p e R s m args below meth c n0 u0 B h1 h2 H locs ls hR hl hlv)
theorem z_bipush {i : Int} {v : Int32} (hv : (Int8.ofInt i).toInt32 = v) (k : Nat) (hd : (mI M)[k]? = some (pc, .bipush i, 2)) (hp : pc + 2 = pc') (kk : zW G d M pc' (lv) (.int v :: st) n u μ nF uF Φ) : zW G d M pc (lv) (st) n u μ nF uF Φ := by
  subst hp
  intro p e R s m args below meth c n0 u0 B h1 h2 H locs ls hR hl hlv
  exact lv_bipush B.1 B.2.1 (z_dec (zB_ok B) hd) hv (kk p e R s m args below meth c n0 u0 B h1 h2 H locs ls hR hl hlv)
theorem z_sipush {i : Int} {v : Int32} (hv : (Int16.ofInt i).toInt32 = v) (k : Nat) (hd : (mI M)[k]? = some (pc, .sipush i, 3)) (hp : pc + 3 = pc') (kk : zW G d M pc' (lv) (.int v :: st) n u μ nF uF Φ) : zW G d M pc (lv) (st) n u μ nF uF Φ := by
  subst hp
  intro p e R s m args below meth c n0 u0 B h1 h2 H locs ls hR hl hlv
  exact lv_sipush B.1 B.2.1 (z_dec (zB_ok B) hd) hv (kk p e R s m args below meth c n0 u0 B h1 h2 H locs ls hR hl hlv)
theorem z_lconst {i : Fin 2} {v : Int64} (hv : Int64.ofNat (i : Nat) = v) (k : Nat) (hd : (mI M)[k]? = some (pc, .lconst i, 1)) (hp : pc + 1 = pc') (kk : zW G d M pc' (lv) (.long v :: st) n u μ nF uF Φ) : zW G d M pc (lv) (st) n u μ nF uF Φ := by
  subst hp
  intro p e R s m args below meth c n0 u0 B h1 h2 H locs ls hR hl hlv
  exact lv_lconst B.1 B.2.1 (z_dec (zB_ok B) hd) hv (kk p e R s m args below meth c n0 u0 B h1 h2 H locs ls hR hl hlv)
theorem z_ldc {i : Nat} {v : Int32} (hc : Cond.constant (mO M) i v ∈ zT) (k : Nat) (hd : (mI M)[k]? = some (pc, .ldc i, 2)) (hp : pc + 2 = pc') (kk : zW G d M pc' (lv) (.int v :: st) n u μ nF uF Φ) : zW G d M pc (lv) (st) n u μ nF uF Φ := by
  subst hp
  intro p e R s m args below meth c n0 u0 B h1 h2 H locs ls hR hl hlv
  exact lv_ldc B.1 B.2.1 B.2.2.2.2.1 (B.2.2.2.2.2.1 _ hc) (z_dec (zB_ok B) hd) (kk p e R s m args below meth c n0 u0 B h1 h2 H locs ls hR hl hlv)
theorem z_ldcw {i : Nat} {v : Int32} (hc : Cond.constant (mO M) i v ∈ zT) (k : Nat) (hd : (mI M)[k]? = some (pc, .ldc_w i, 3)) (hp : pc + 3 = pc') (kk : zW G d M pc' (lv) (.int v :: st) n u μ nF uF Φ) : zW G d M pc (lv) (st) n u μ nF uF Φ := by
  subst hp
  intro p e R s m args below meth c n0 u0 B h1 h2 H locs ls hR hl hlv
  exact lv_ldcw B.1 B.2.1 B.2.2.2.2.1 (B.2.2.2.2.2.1 _ hc) (z_dec (zB_ok B) hd) (kk p e R s m args below meth c n0 u0 B h1 h2 H locs ls hR hl hlv)
theorem z_ldc2 {i : Nat} {v : Int64} (hc : Cond.constantLong (mO M) i v ∈ zT) (k : Nat) (hd : (mI M)[k]? = some (pc, .ldc2_w i, 3)) (hp : pc + 3 = pc') (kk : zW G d M pc' (lv) (.long v :: st) n u μ nF uF Φ) : zW G d M pc (lv) (st) n u μ nF uF Φ := by
  subst hp
  intro p e R s m args below meth c n0 u0 B h1 h2 H locs ls hR hl hlv
  exact lv_ldc2 B.1 B.2.1 B.2.2.2.2.1 (B.2.2.2.2.2.1 _ hc) (z_dec (zB_ok B) hd) (kk p e R s m args below meth c n0 u0 B h1 h2 H locs ls hR hl hlv)
theorem z_aconst_null  (k : Nat) (hd : (mI M)[k]? = some (pc, .aconst_null, 1)) (hp : pc + 1 = pc') (kk : zW G d M pc' (lv) (.null :: st) n u μ nF uF Φ) : zW G d M pc (lv) (st) n u μ nF uF Φ := by
  subst hp
  intro p e R s m args below meth c n0 u0 B h1 h2 H locs ls hR hl hlv
  exact lv_null B.1 B.2.1 (z_dec (zB_ok B) hd) (kk p e R s m args below meth c n0 u0 B h1 h2 H locs ls hR hl hlv)
theorem z_iadd {x y : Int32} (k : Nat) (hd : (mI M)[k]? = some (pc, .iadd, 1)) (hp : pc + 1 = pc') (kk : zW G d M pc' (lv) (.int (x + y) :: st) n u μ nF uF Φ) : zW G d M pc (lv) (.int y :: .int x :: st) n u μ nF uF Φ := by
  subst hp
  intro p e R s m args below meth c n0 u0 B h1 h2 H locs ls hR hl hlv
  exact lv_iadd B.1 B.2.1 (z_dec (zB_ok B) hd) (kk p e R s m args below meth c n0 u0 B h1 h2 H locs ls hR hl hlv)
theorem z_isub {x y : Int32} (k : Nat) (hd : (mI M)[k]? = some (pc, .isub, 1)) (hp : pc + 1 = pc') (kk : zW G d M pc' (lv) (.int (x - y) :: st) n u μ nF uF Φ) : zW G d M pc (lv) (.int y :: .int x :: st) n u μ nF uF Φ := by
  subst hp
  intro p e R s m args below meth c n0 u0 B h1 h2 H locs ls hR hl hlv
  exact lv_isub B.1 B.2.1 (z_dec (zB_ok B) hd) (kk p e R s m args below meth c n0 u0 B h1 h2 H locs ls hR hl hlv)
theorem z_imul {x y : Int32} (k : Nat) (hd : (mI M)[k]? = some (pc, .imul, 1)) (hp : pc + 1 = pc') (kk : zW G d M pc' (lv) (.int (x * y) :: st) n u μ nF uF Φ) : zW G d M pc (lv) (.int y :: .int x :: st) n u μ nF uF Φ := by
  subst hp
  intro p e R s m args below meth c n0 u0 B h1 h2 H locs ls hR hl hlv
  exact lv_imul B.1 B.2.1 (z_dec (zB_ok B) hd) (kk p e R s m args below meth c n0 u0 B h1 h2 H locs ls hR hl hlv)
theorem z_iand {x y : Int32} (k : Nat) (hd : (mI M)[k]? = some (pc, .iand, 1)) (hp : pc + 1 = pc') (kk : zW G d M pc' (lv) (.int (x &&& y) :: st) n u μ nF uF Φ) : zW G d M pc (lv) (.int y :: .int x :: st) n u μ nF uF Φ := by
  subst hp
  intro p e R s m args below meth c n0 u0 B h1 h2 H locs ls hR hl hlv
  exact lv_iand B.1 B.2.1 (z_dec (zB_ok B) hd) (kk p e R s m args below meth c n0 u0 B h1 h2 H locs ls hR hl hlv)
theorem z_ior {x y : Int32} (k : Nat) (hd : (mI M)[k]? = some (pc, .ior, 1)) (hp : pc + 1 = pc') (kk : zW G d M pc' (lv) (.int (x ||| y) :: st) n u μ nF uF Φ) : zW G d M pc (lv) (.int y :: .int x :: st) n u μ nF uF Φ := by
  subst hp
  intro p e R s m args below meth c n0 u0 B h1 h2 H locs ls hR hl hlv
  exact lv_ior B.1 B.2.1 (z_dec (zB_ok B) hd) (kk p e R s m args below meth c n0 u0 B h1 h2 H locs ls hR hl hlv)
theorem z_ixor {x y : Int32} (k : Nat) (hd : (mI M)[k]? = some (pc, .ixor, 1)) (hp : pc + 1 = pc') (kk : zW G d M pc' (lv) (.int (x ^^^ y) :: st) n u μ nF uF Φ) : zW G d M pc (lv) (.int y :: .int x :: st) n u μ nF uF Φ := by
  subst hp
  intro p e R s m args below meth c n0 u0 B h1 h2 H locs ls hR hl hlv
  exact lv_ixor B.1 B.2.1 (z_dec (zB_ok B) hd) (kk p e R s m args below meth c n0 u0 B h1 h2 H locs ls hR hl hlv)
theorem z_ishl {x y : Int32} (k : Nat) (hd : (mI M)[k]? = some (pc, .ishl, 1)) (hp : pc + 1 = pc') (kk : zW G d M pc' (lv) (.int (x <<< (y &&& 31)) :: st) n u μ nF uF Φ) : zW G d M pc (lv) (.int y :: .int x :: st) n u μ nF uF Φ := by
  subst hp
  intro p e R s m args below meth c n0 u0 B h1 h2 H locs ls hR hl hlv
  exact lv_ishl B.1 B.2.1 (z_dec (zB_ok B) hd) (kk p e R s m args below meth c n0 u0 B h1 h2 H locs ls hR hl hlv)
theorem z_ishr {x y : Int32} (k : Nat) (hd : (mI M)[k]? = some (pc, .ishr, 1)) (hp : pc + 1 = pc') (kk : zW G d M pc' (lv) (.int (x >>> (y &&& 31)) :: st) n u μ nF uF Φ) : zW G d M pc (lv) (.int y :: .int x :: st) n u μ nF uF Φ := by
  subst hp
  intro p e R s m args below meth c n0 u0 B h1 h2 H locs ls hR hl hlv
  exact lv_ishr B.1 B.2.1 (z_dec (zB_ok B) hd) (kk p e R s m args below meth c n0 u0 B h1 h2 H locs ls hR hl hlv)
theorem z_idiv {x y : Int32} (hne : ¬ y = 0) (k : Nat) (hd : (mI M)[k]? = some (pc, .idiv, 1)) (hp : pc + 1 = pc') (kk : zW G d M pc' (lv) (.int (x / y) :: st) n u μ nF uF Φ) : zW G d M pc (lv) (.int y :: .int x :: st) n u μ nF uF Φ := by
  subst hp
  intro p e R s m args below meth c n0 u0 B h1 h2 H locs ls hR hl hlv
  exact lv_idiv B.1 B.2.1 (z_dec (zB_ok B) hd) hne (kk p e R s m args below meth c n0 u0 B h1 h2 H locs ls hR hl hlv)
theorem z_irem {x y : Int32} (hne : ¬ y = 0) (k : Nat) (hd : (mI M)[k]? = some (pc, .irem, 1)) (hp : pc + 1 = pc') (kk : zW G d M pc' (lv) (.int (x - x / y * y) :: st) n u μ nF uF Φ) : zW G d M pc (lv) (.int y :: .int x :: st) n u μ nF uF Φ := by
  subst hp
  intro p e R s m args below meth c n0 u0 B h1 h2 H locs ls hR hl hlv
  exact lv_irem B.1 B.2.1 (z_dec (zB_ok B) hd) hne (kk p e R s m args below meth c n0 u0 B h1 h2 H locs ls hR hl hlv)
theorem z_iushr {x y : Int32} (k : Nat) (hd : (mI M)[k]? = some (pc, .iushr, 1)) (hp : pc + 1 = pc') (kk : zW G d M pc' (lv) (.int (x.toUInt32 >>> (y.toUInt32 &&& Int32.toUInt32 31)).toInt32 :: st) n u μ nF uF Φ) : zW G d M pc (lv) (.int y :: .int x :: st) n u μ nF uF Φ := by
  subst hp
  intro p e R s m args below meth c n0 u0 B h1 h2 H locs ls hR hl hlv
  exact lv_iushr B.1 B.2.1 (z_dec (zB_ok B) hd) rfl (kk p e R s m args below meth c n0 u0 B h1 h2 H locs ls hR hl hlv)
theorem z_ladd {x y : Int64} (k : Nat) (hd : (mI M)[k]? = some (pc, .ladd, 1)) (hp : pc + 1 = pc') (kk : zW G d M pc' (lv) (.long (x + y) :: st) n u μ nF uF Φ) : zW G d M pc (lv) (.long y :: .long x :: st) n u μ nF uF Φ := by
  subst hp
  intro p e R s m args below meth c n0 u0 B h1 h2 H locs ls hR hl hlv
  exact lv_ladd B.1 B.2.1 (z_dec (zB_ok B) hd) (kk p e R s m args below meth c n0 u0 B h1 h2 H locs ls hR hl hlv)
theorem z_land {x y : Int64} (k : Nat) (hd : (mI M)[k]? = some (pc, .land, 1)) (hp : pc + 1 = pc') (kk : zW G d M pc' (lv) (.long (x &&& y) :: st) n u μ nF uF Φ) : zW G d M pc (lv) (.long y :: .long x :: st) n u μ nF uF Φ := by
  subst hp
  intro p e R s m args below meth c n0 u0 B h1 h2 H locs ls hR hl hlv
  exact lv_land B.1 B.2.1 (z_dec (zB_ok B) hd) (kk p e R s m args below meth c n0 u0 B h1 h2 H locs ls hR hl hlv)
theorem z_lor {x y : Int64} (k : Nat) (hd : (mI M)[k]? = some (pc, .lor, 1)) (hp : pc + 1 = pc') (kk : zW G d M pc' (lv) (.long (x ||| y) :: st) n u μ nF uF Φ) : zW G d M pc (lv) (.long y :: .long x :: st) n u μ nF uF Φ := by
  subst hp
  intro p e R s m args below meth c n0 u0 B h1 h2 H locs ls hR hl hlv
  exact lv_lor B.1 B.2.1 (z_dec (zB_ok B) hd) (kk p e R s m args below meth c n0 u0 B h1 h2 H locs ls hR hl hlv)
theorem z_lshl {x : Int64} {y : Int32} (k : Nat) (hd : (mI M)[k]? = some (pc, .lshl, 1)) (hp : pc + 1 = pc') (kk : zW G d M pc' (lv) (.long (x <<< (y.toInt64 &&& 63)) :: st) n u μ nF uF Φ) : zW G d M pc (lv) (.int y :: .long x :: st) n u μ nF uF Φ := by
  subst hp
  intro p e R s m args below meth c n0 u0 B h1 h2 H locs ls hR hl hlv
  exact lv_lshl B.1 B.2.1 (z_dec (zB_ok B) hd) rfl (kk p e R s m args below meth c n0 u0 B h1 h2 H locs ls hR hl hlv)
theorem z_lshr {x : Int64} {y : Int32} (k : Nat) (hd : (mI M)[k]? = some (pc, .lshr, 1)) (hp : pc + 1 = pc') (kk : zW G d M pc' (lv) (.long (x >>> (y.toInt64 &&& 63)) :: st) n u μ nF uF Φ) : zW G d M pc (lv) (.int y :: .long x :: st) n u μ nF uF Φ := by
  subst hp
  intro p e R s m args below meth c n0 u0 B h1 h2 H locs ls hR hl hlv
  exact lv_lshr B.1 B.2.1 (z_dec (zB_ok B) hd) rfl (kk p e R s m args below meth c n0 u0 B h1 h2 H locs ls hR hl hlv)
theorem z_lushr {x : Int64} {y : Int32} (k : Nat) (hd : (mI M)[k]? = some (pc, .lushr, 1)) (hp : pc + 1 = pc') (kk : zW G d M pc' (lv) (.long ((x.toUInt64 >>> (y.toInt64.toUInt64 &&& Int64.toUInt64 63)).toInt64) :: st) n u μ nF uF Φ) : zW G d M pc (lv) (.int y :: .long x :: st) n u μ nF uF Φ := by
  subst hp
  intro p e R s m args below meth c n0 u0 B h1 h2 H locs ls hR hl hlv
  exact lv_lushr B.1 B.2.1 (z_dec (zB_ok B) hd) rfl (kk p e R s m args below meth c n0 u0 B h1 h2 H locs ls hR hl hlv)
theorem z_lcmp {x y : Int64} (k : Nat) (hd : (mI M)[k]? = some (pc, .lcmp, 1)) (hp : pc + 1 = pc') (kk : zW G d M pc' (lv) (.int (lg_cmp x y) :: st) n u μ nF uF Φ) : zW G d M pc (lv) (.long y :: .long x :: st) n u μ nF uF Φ := by
  subst hp
  intro p e R s m args below meth c n0 u0 B h1 h2 H locs ls hR hl hlv
  exact W.lcmp B.1 B.2.1 (z_dec (zB_ok B) hd) (kk p e R s m args below meth c n0 u0 B h1 h2 H locs ls hR hl hlv)
theorem z_i2l {x : Int32} (k : Nat) (hd : (mI M)[k]? = some (pc, .i2l, 1)) (hp : pc + 1 = pc') (kk : zW G d M pc' (lv) (.long x.toInt64 :: st) n u μ nF uF Φ) : zW G d M pc (lv) (.int x :: st) n u μ nF uF Φ := by
  subst hp
  intro p e R s m args below meth c n0 u0 B h1 h2 H locs ls hR hl hlv
  exact lv_i2l B.1 B.2.1 (z_dec (zB_ok B) hd) rfl (kk p e R s m args below meth c n0 u0 B h1 h2 H locs ls hR hl hlv)
theorem z_l2i {x : Int64} (k : Nat) (hd : (mI M)[k]? = some (pc, .l2i, 1)) (hp : pc + 1 = pc') (kk : zW G d M pc' (lv) (.int x.toInt32 :: st) n u μ nF uF Φ) : zW G d M pc (lv) (.long x :: st) n u μ nF uF Φ := by
  subst hp
  intro p e R s m args below meth c n0 u0 B h1 h2 H locs ls hR hl hlv
  exact lv_l2i B.1 B.2.1 (z_dec (zB_ok B) hd) rfl (kk p e R s m args below meth c n0 u0 B h1 h2 H locs ls hR hl hlv)
theorem z_i2b {x : Int32} (k : Nat) (hd : (mI M)[k]? = some (pc, .i2b, 1)) (hp : pc + 1 = pc') (kk : zW G d M pc' (lv) (.int x.toInt8.toInt32 :: st) n u μ nF uF Φ) : zW G d M pc (lv) (.int x :: st) n u μ nF uF Φ := by
  subst hp
  intro p e R s m args below meth c n0 u0 B h1 h2 H locs ls hR hl hlv
  exact lv_i2b B.1 B.2.1 (z_dec (zB_ok B) hd) rfl (kk p e R s m args below meth c n0 u0 B h1 h2 H locs ls hR hl hlv)
theorem z_i2s {x : Int32} (k : Nat) (hd : (mI M)[k]? = some (pc, .i2s, 1)) (hp : pc + 1 = pc') (kk : zW G d M pc' (lv) (.int x.toInt16.toInt32 :: st) n u μ nF uF Φ) : zW G d M pc (lv) (.int x :: st) n u μ nF uF Φ := by
  subst hp
  intro p e R s m args below meth c n0 u0 B h1 h2 H locs ls hR hl hlv
  exact lv_i2s B.1 B.2.1 (z_dec (zB_ok B) hd) rfl (kk p e R s m args below meth c n0 u0 B h1 h2 H locs ls hR hl hlv)
theorem z_iaddN {a b : Nat}  (k : Nat) (hd : (mI M)[k]? = some (pc, .iadd, 1)) (hp : pc + 1 = pc') (kk : zW G d M pc' lv (.int (nI (a + b)) :: st) n u μ nF uF Φ) : zW G d M pc lv (.int (nI b) :: .int (nI a) :: st) n u μ nF uF Φ :=
  z_iadd k hd hp (by rw [nI_add]; exact kk)
theorem z_imulN {a b : Nat}  (k : Nat) (hd : (mI M)[k]? = some (pc, .imul, 1)) (hp : pc + 1 = pc') (kk : zW G d M pc' lv (.int (nI (a * b)) :: st) n u μ nF uF Φ) : zW G d M pc lv (.int (nI b) :: .int (nI a) :: st) n u μ nF uF Φ :=
  z_imul k hd hp (by rw [pk_mul]; exact kk)
theorem z_isubN {a b : Nat} (hb : b ≤ a) (k : Nat) (hd : (mI M)[k]? = some (pc, .isub, 1)) (hp : pc + 1 = pc') (kk : zW G d M pc' lv (.int (nI (a - b)) :: st) n u μ nF uF Φ) : zW G d M pc lv (.int (nI b) :: .int (nI a) :: st) n u μ nF uF Φ :=
  z_isub k hd hp (by rw [pk_sub hb]; exact kk)
theorem z_dup {v : Value} (hv : v.category = 1) (k : Nat) (hd : (mI M)[k]? = some (pc, .dup, 1)) (hp : pc + 1 = pc') (kk : zW G d M pc' (lv) (v :: v :: st) n u μ nF uF Φ) : zW G d M pc (lv) (v :: st) n u μ nF uF Φ := by
  subst hp
  intro p e R s m args below meth c n0 u0 B h1 h2 H locs ls hR hl hlv
  exact lv_dup B.1 B.2.1 (z_dec (zB_ok B) hd) (by rw [zv_cat]; exact hv) (kk p e R s m args below meth c n0 u0 B h1 h2 H locs ls hR hl hlv)
theorem z_dup2 {v w : Value} (hv : v.category = 1) (hw : w.category = 1) (k : Nat) (hd : (mI M)[k]? = some (pc, .dup2, 1)) (hp : pc + 1 = pc') (kk : zW G d M pc' (lv) (v :: w :: v :: w :: st) n u μ nF uF Φ) : zW G d M pc (lv) (v :: w :: st) n u μ nF uF Φ := by
  subst hp
  intro p e R s m args below meth c n0 u0 B h1 h2 H locs ls hR hl hlv
  exact lv_dup2_11 B.1 B.2.1 (z_dec (zB_ok B) hd) (by rw [zv_cat]; exact hv) (by rw [zv_cat]; exact hw) (kk p e R s m args below meth c n0 u0 B h1 h2 H locs ls hR hl hlv)
theorem z_pop {v : Value} (hv : v.category = 1) (k : Nat) (hd : (mI M)[k]? = some (pc, .pop, 1)) (hp : pc + 1 = pc') (kk : zW G d M pc' (lv) (st) n u μ nF uF Φ) : zW G d M pc (lv) (v :: st) n u μ nF uF Φ := by
  subst hp
  intro p e R s m args below meth c n0 u0 B h1 h2 H locs ls hR hl hlv
  exact lv_pop B.1 B.2.1 (z_dec (zB_ok B) hd) (by rw [zv_cat]; exact hv) (kk p e R s m args below meth c n0 u0 B h1 h2 H locs ls hR hl hlv)
theorem z_il0  {lv0 : List Value} {x : Int32} (k : Nat) (hd : (mI M)[k]? = some (pc, .iload_n 0, 1)) (hp : pc + 1 = pc') (kk : zW G d M pc' (.int x :: lv0) (.int x :: st) n u μ nF uF Φ) : zW G d M pc (.int x :: lv0) (st) n u μ nF uF Φ := by
  subst hp
  intro p e R s m args below meth c n0 u0 B h1 h2 H locs ls hR hl hlv
  exact lv_iload_n B.1 B.2.1 (z_dec (zB_ok B) hd) rfl (zlv_at hlv (i := 0) (v := .int x) rfl rfl) (kk p e R s m args below meth c n0 u0 B h1 h2 H locs ls hR hl hlv)
theorem z_al0  {lv0 : List Value} {x : Nat} (k : Nat) (hd : (mI M)[k]? = some (pc, .aload_n 0, 1)) (hp : pc + 1 = pc') (kk : zW G d M pc' (.ref x :: lv0) (.ref x :: st) n u μ nF uF Φ) : zW G d M pc (.ref x :: lv0) (st) n u μ nF uF Φ := by
  subst hp
  intro p e R s m args below meth c n0 u0 B h1 h2 H locs ls hR hl hlv
  exact lv_aload_n B.1 B.2.1 (z_dec (zB_ok B) hd) rfl (zlv_at hlv (i := 0) (v := .ref x) rfl rfl) (kk p e R s m args below meth c n0 u0 B h1 h2 H locs ls hR hl hlv)
theorem z_is0  {w : Value} {lv0 : List Value} {x : Int32}  (hm : Nat.ble 1 (mL M) = true) (k : Nat) (hd : (mI M)[k]? = some (pc, .istore_n 0, 1)) (hp : pc + 1 = pc') (kk : zW G d M pc' (.int x :: lv0) (st) n u μ nF uF Φ) : zW G d M pc (w :: lv0) (.int x :: st) n u μ nF uF Φ := by
  subst hp
  intro p e R s m args below meth c n0 u0 B h1 h2 H locs ls hR hl hlv
  exact lv_istore_n B.1 B.2.1 (z_dec (zB_ok B) hd) rfl hlv (Nat.le_of_ble_eq_true hm) rfl (fun ls1 hlv1 => kk p e R s m args below meth c n0 u0 B h1 h2 H locs ls1 hR hl (zlv_set (v := .int x) (lv := w :: lv0) hlv1 rfl))
theorem z_as0  {w : Value} {lv0 : List Value} {x : Nat}  (hm : Nat.ble 1 (mL M) = true) (k : Nat) (hd : (mI M)[k]? = some (pc, .astore_n 0, 1)) (hp : pc + 1 = pc') (kk : zW G d M pc' (.ref x :: lv0) (st) n u μ nF uF Φ) : zW G d M pc (w :: lv0) (.ref x :: st) n u μ nF uF Φ := by
  subst hp
  intro p e R s m args below meth c n0 u0 B h1 h2 H locs ls hR hl hlv
  exact lv_astore_n B.1 B.2.1 (z_dec (zB_ok B) hd) rfl hlv (Nat.le_of_ble_eq_true hm) rfl (fun ls1 hlv1 => kk p e R s m args below meth c n0 u0 B h1 h2 H locs ls1 hR hl (zlv_set (v := .ref x) (lv := w :: lv0) hlv1 rfl))
theorem z_inc0  {lv0 : List Value} {x v : Int32} {z : Int}  (hm : Nat.ble 1 (mL M) = true) (hv : x + Int32.ofInt z = v) (k : Nat) (hd : (mI M)[k]? = some (pc, .iinc 0 z, 3)) (hp : pc + 3 = pc') (kk : zW G d M pc' (.int v :: lv0) st n u μ nF uF Φ) : zW G d M pc (.int x :: lv0) st n u μ nF uF Φ := by
  subst hp
  intro p e R s m args below meth c n0 u0 B h1 h2 H locs ls hR hl hlv
  obtain ⟨k0, hk0⟩ := List.getElem?_of_mem ((zal_mem (G := G) (.int x :: lv0) 0 (0, .int x)).mpr ⟨0, .int x, rfl, rfl, by rw [Nat.zero_add]; rfl⟩)
  exact lv_iinc B.1 B.2.1 (z_dec (zB_ok B) hd) hlv hk0 hv (Nat.le_of_ble_eq_true hm) rfl (fun ls1 hlv1 => kk p e R s m args below meth c n0 u0 B h1 h2 H locs ls1 hR hl (zlv_set (v := .int v) (lv := .int x :: lv0) hlv1 rfl))
theorem z_inc0N  {lv0 : List Value} {j : Nat}  (hm : Nat.ble 1 (mL M) = true) (k : Nat) (hd : (mI M)[k]? = some (pc, .iinc 0 1, 3)) (hp : pc + 3 = pc') (kk : zW G d M pc' (.int (nI (j + 1)) :: lv0) st n u μ nF uF Φ) : zW G d M pc (.int (nI j) :: lv0) st n u μ nF uF Φ :=
  z_inc0  hm (show nI j + Int32.ofInt 1 = nI (j + 1) from nI_1 j) k hd hp kk
theorem z_less0  {w : Value} {lv0 : List Value} (kk : zW G d M pc (.retAddr 0 :: lv0) st n u μ nF uF Φ) : zW G d M pc (w :: lv0) st n u μ nF uF Φ := by
  intro p e R s m args below meth c n0 u0 B h1 h2 H locs ls hR hl hlv
  exact kk p e R s m args below meth c n0 u0 B h1 h2 H locs ls hR hl (zlv_less (i := 0) (a := 0) (lv := w :: lv0) hlv)
theorem z_il1 {a0 : Value} {lv0 : List Value} {x : Int32} (k : Nat) (hd : (mI M)[k]? = some (pc, .iload_n 1, 1)) (hp : pc + 1 = pc') (kk : zW G d M pc' (a0 :: .int x :: lv0) (.int x :: st) n u μ nF uF Φ) : zW G d M pc (a0 :: .int x :: lv0) (st) n u μ nF uF Φ := by
  subst hp
  intro p e R s m args below meth c n0 u0 B h1 h2 H locs ls hR hl hlv
  exact lv_iload_n B.1 B.2.1 (z_dec (zB_ok B) hd) rfl (zlv_at hlv (i := 1) (v := .int x) rfl rfl) (kk p e R s m args below meth c n0 u0 B h1 h2 H locs ls hR hl hlv)
theorem z_al1 {a0 : Value} {lv0 : List Value} {x : Nat} (k : Nat) (hd : (mI M)[k]? = some (pc, .aload_n 1, 1)) (hp : pc + 1 = pc') (kk : zW G d M pc' (a0 :: .ref x :: lv0) (.ref x :: st) n u μ nF uF Φ) : zW G d M pc (a0 :: .ref x :: lv0) (st) n u μ nF uF Φ := by
  subst hp
  intro p e R s m args below meth c n0 u0 B h1 h2 H locs ls hR hl hlv
  exact lv_aload_n B.1 B.2.1 (z_dec (zB_ok B) hd) rfl (zlv_at hlv (i := 1) (v := .ref x) rfl rfl) (kk p e R s m args below meth c n0 u0 B h1 h2 H locs ls hR hl hlv)
theorem z_ll1 {a0 : Value} {lv0 : List Value} {x : Int64} (k : Nat) (hd : (mI M)[k]? = some (pc, .lload_n 1, 1)) (hp : pc + 1 = pc') (kk : zW G d M pc' (a0 :: .long x :: lv0) (.long x :: st) n u μ nF uF Φ) : zW G d M pc (a0 :: .long x :: lv0) (st) n u μ nF uF Φ := by
  subst hp
  intro p e R s m args below meth c n0 u0 B h1 h2 H locs ls hR hl hlv
  exact lv_lload_n B.1 B.2.1 (z_dec (zB_ok B) hd) rfl (zlv_at hlv (i := 1) (v := .long x) rfl rfl) (kk p e R s m args below meth c n0 u0 B h1 h2 H locs ls hR hl hlv)
theorem z_is1 {a0 : Value} {w : Value} {lv0 : List Value} {x : Int32} (hs : Nat.beq a0.category 2 = false) (hm : Nat.ble 2 (mL M) = true) (k : Nat) (hd : (mI M)[k]? = some (pc, .istore_n 1, 1)) (hp : pc + 1 = pc') (kk : zW G d M pc' (a0 :: .int x :: lv0) (st) n u μ nF uF Φ) : zW G d M pc (a0 :: w :: lv0) (.int x :: st) n u μ nF uF Φ := by
  subst hp
  intro p e R s m args below meth c n0 u0 B h1 h2 H locs ls hR hl hlv
  exact lv_istore_n B.1 B.2.1 (z_dec (zB_ok B) hd) rfl hlv (Nat.le_of_ble_eq_true hm) rfl (fun ls1 hlv1 => kk p e R s m args below meth c n0 u0 B h1 h2 H locs ls1 hR hl (zlv_set (v := .int x) (lv := a0 :: w :: lv0) hlv1 (by show (a0.category != 2) = true; simpa using Nat.ne_of_beq_eq_false hs)))
theorem z_as1 {a0 : Value} {w : Value} {lv0 : List Value} {x : Nat} (hs : Nat.beq a0.category 2 = false) (hm : Nat.ble 2 (mL M) = true) (k : Nat) (hd : (mI M)[k]? = some (pc, .astore_n 1, 1)) (hp : pc + 1 = pc') (kk : zW G d M pc' (a0 :: .ref x :: lv0) (st) n u μ nF uF Φ) : zW G d M pc (a0 :: w :: lv0) (.ref x :: st) n u μ nF uF Φ := by
  subst hp
  intro p e R s m args below meth c n0 u0 B h1 h2 H locs ls hR hl hlv
  exact lv_astore_n B.1 B.2.1 (z_dec (zB_ok B) hd) rfl hlv (Nat.le_of_ble_eq_true hm) rfl (fun ls1 hlv1 => kk p e R s m args below meth c n0 u0 B h1 h2 H locs ls1 hR hl (zlv_set (v := .ref x) (lv := a0 :: w :: lv0) hlv1 (by show (a0.category != 2) = true; simpa using Nat.ne_of_beq_eq_false hs)))
theorem z_inc1 {a0 : Value} {lv0 : List Value} {x v : Int32} {z : Int} (hs : Nat.beq a0.category 2 = false) (hm : Nat.ble 2 (mL M) = true) (hv : x + Int32.ofInt z = v) (k : Nat) (hd : (mI M)[k]? = some (pc, .iinc 1 z, 3)) (hp : pc + 3 = pc') (kk : zW G d M pc' (a0 :: .int v :: lv0) st n u μ nF uF Φ) : zW G d M pc (a0 :: .int x :: lv0) st n u μ nF uF Φ := by
  subst hp
  intro p e R s m args below meth c n0 u0 B h1 h2 H locs ls hR hl hlv
  obtain ⟨k0, hk0⟩ := List.getElem?_of_mem ((zal_mem (G := G) (a0 :: .int x :: lv0) 0 (1, .int x)).mpr ⟨1, .int x, rfl, rfl, by rw [Nat.zero_add]; rfl⟩)
  exact lv_iinc B.1 B.2.1 (z_dec (zB_ok B) hd) hlv hk0 hv (Nat.le_of_ble_eq_true hm) rfl (fun ls1 hlv1 => kk p e R s m args below meth c n0 u0 B h1 h2 H locs ls1 hR hl (zlv_set (v := .int v) (lv := a0 :: .int x :: lv0) hlv1 (by show (a0.category != 2) = true; simpa using Nat.ne_of_beq_eq_false hs)))
theorem z_inc1N {a0 : Value} {lv0 : List Value} {j : Nat} (hs : Nat.beq a0.category 2 = false) (hm : Nat.ble 2 (mL M) = true) (k : Nat) (hd : (mI M)[k]? = some (pc, .iinc 1 1, 3)) (hp : pc + 3 = pc') (kk : zW G d M pc' (a0 :: .int (nI (j + 1)) :: lv0) st n u μ nF uF Φ) : zW G d M pc (a0 :: .int (nI j) :: lv0) st n u μ nF uF Φ :=
  z_inc1 hs hm (show nI j + Int32.ofInt 1 = nI (j + 1) from nI_1 j) k hd hp kk
theorem z_less1 {a0 : Value} {w : Value} {lv0 : List Value} (kk : zW G d M pc (a0 :: .retAddr 0 :: lv0) st n u μ nF uF Φ) : zW G d M pc (a0 :: w :: lv0) st n u μ nF uF Φ := by
  intro p e R s m args below meth c n0 u0 B h1 h2 H locs ls hR hl hlv
  exact kk p e R s m args below meth c n0 u0 B h1 h2 H locs ls hR hl (zlv_less (i := 1) (a := 0) (lv := a0 :: w :: lv0) hlv)
theorem z_il2 {a0 a1 : Value} {lv0 : List Value} {x : Int32} (k : Nat) (hd : (mI M)[k]? = some (pc, .iload_n 2, 1)) (hp : pc + 1 = pc') (kk : zW G d M pc' (a0 :: a1 :: .int x :: lv0) (.int x :: st) n u μ nF uF Φ) : zW G d M pc (a0 :: a1 :: .int x :: lv0) (st) n u μ nF uF Φ := by
  subst hp
  intro p e R s m args below meth c n0 u0 B h1 h2 H locs ls hR hl hlv
  exact lv_iload_n B.1 B.2.1 (z_dec (zB_ok B) hd) rfl (zlv_at hlv (i := 2) (v := .int x) rfl rfl) (kk p e R s m args below meth c n0 u0 B h1 h2 H locs ls hR hl hlv)
theorem z_al2 {a0 a1 : Value} {lv0 : List Value} {x : Nat} (k : Nat) (hd : (mI M)[k]? = some (pc, .aload_n 2, 1)) (hp : pc + 1 = pc') (kk : zW G d M pc' (a0 :: a1 :: .ref x :: lv0) (.ref x :: st) n u μ nF uF Φ) : zW G d M pc (a0 :: a1 :: .ref x :: lv0) (st) n u μ nF uF Φ := by
  subst hp
  intro p e R s m args below meth c n0 u0 B h1 h2 H locs ls hR hl hlv
  exact lv_aload_n B.1 B.2.1 (z_dec (zB_ok B) hd) rfl (zlv_at hlv (i := 2) (v := .ref x) rfl rfl) (kk p e R s m args below meth c n0 u0 B h1 h2 H locs ls hR hl hlv)
theorem z_ll2 {a0 a1 : Value} {lv0 : List Value} {x : Int64} (k : Nat) (hd : (mI M)[k]? = some (pc, .lload_n 2, 1)) (hp : pc + 1 = pc') (kk : zW G d M pc' (a0 :: a1 :: .long x :: lv0) (.long x :: st) n u μ nF uF Φ) : zW G d M pc (a0 :: a1 :: .long x :: lv0) (st) n u μ nF uF Φ := by
  subst hp
  intro p e R s m args below meth c n0 u0 B h1 h2 H locs ls hR hl hlv
  exact lv_lload_n B.1 B.2.1 (z_dec (zB_ok B) hd) rfl (zlv_at hlv (i := 2) (v := .long x) rfl rfl) (kk p e R s m args below meth c n0 u0 B h1 h2 H locs ls hR hl hlv)
theorem z_is2 {a0 a1 : Value} {w : Value} {lv0 : List Value} {x : Int32} (hs : Nat.beq a1.category 2 = false) (hm : Nat.ble 3 (mL M) = true) (k : Nat) (hd : (mI M)[k]? = some (pc, .istore_n 2, 1)) (hp : pc + 1 = pc') (kk : zW G d M pc' (a0 :: a1 :: .int x :: lv0) (st) n u μ nF uF Φ) : zW G d M pc (a0 :: a1 :: w :: lv0) (.int x :: st) n u μ nF uF Φ := by
  subst hp
  intro p e R s m args below meth c n0 u0 B h1 h2 H locs ls hR hl hlv
  exact lv_istore_n B.1 B.2.1 (z_dec (zB_ok B) hd) rfl hlv (Nat.le_of_ble_eq_true hm) rfl (fun ls1 hlv1 => kk p e R s m args below meth c n0 u0 B h1 h2 H locs ls1 hR hl (zlv_set (v := .int x) (lv := a0 :: a1 :: w :: lv0) hlv1 (by show (a1.category != 2) = true; simpa using Nat.ne_of_beq_eq_false hs)))
theorem z_as2 {a0 a1 : Value} {w : Value} {lv0 : List Value} {x : Nat} (hs : Nat.beq a1.category 2 = false) (hm : Nat.ble 3 (mL M) = true) (k : Nat) (hd : (mI M)[k]? = some (pc, .astore_n 2, 1)) (hp : pc + 1 = pc') (kk : zW G d M pc' (a0 :: a1 :: .ref x :: lv0) (st) n u μ nF uF Φ) : zW G d M pc (a0 :: a1 :: w :: lv0) (.ref x :: st) n u μ nF uF Φ := by
  subst hp
  intro p e R s m args below meth c n0 u0 B h1 h2 H locs ls hR hl hlv
  exact lv_astore_n B.1 B.2.1 (z_dec (zB_ok B) hd) rfl hlv (Nat.le_of_ble_eq_true hm) rfl (fun ls1 hlv1 => kk p e R s m args below meth c n0 u0 B h1 h2 H locs ls1 hR hl (zlv_set (v := .ref x) (lv := a0 :: a1 :: w :: lv0) hlv1 (by show (a1.category != 2) = true; simpa using Nat.ne_of_beq_eq_false hs)))
theorem z_inc2 {a0 a1 : Value} {lv0 : List Value} {x v : Int32} {z : Int} (hs : Nat.beq a1.category 2 = false) (hm : Nat.ble 3 (mL M) = true) (hv : x + Int32.ofInt z = v) (k : Nat) (hd : (mI M)[k]? = some (pc, .iinc 2 z, 3)) (hp : pc + 3 = pc') (kk : zW G d M pc' (a0 :: a1 :: .int v :: lv0) st n u μ nF uF Φ) : zW G d M pc (a0 :: a1 :: .int x :: lv0) st n u μ nF uF Φ := by
  subst hp
  intro p e R s m args below meth c n0 u0 B h1 h2 H locs ls hR hl hlv
  obtain ⟨k0, hk0⟩ := List.getElem?_of_mem ((zal_mem (G := G) (a0 :: a1 :: .int x :: lv0) 0 (2, .int x)).mpr ⟨2, .int x, rfl, rfl, by rw [Nat.zero_add]; rfl⟩)
  exact lv_iinc B.1 B.2.1 (z_dec (zB_ok B) hd) hlv hk0 hv (Nat.le_of_ble_eq_true hm) rfl (fun ls1 hlv1 => kk p e R s m args below meth c n0 u0 B h1 h2 H locs ls1 hR hl (zlv_set (v := .int v) (lv := a0 :: a1 :: .int x :: lv0) hlv1 (by show (a1.category != 2) = true; simpa using Nat.ne_of_beq_eq_false hs)))
theorem z_inc2N {a0 a1 : Value} {lv0 : List Value} {j : Nat} (hs : Nat.beq a1.category 2 = false) (hm : Nat.ble 3 (mL M) = true) (k : Nat) (hd : (mI M)[k]? = some (pc, .iinc 2 1, 3)) (hp : pc + 3 = pc') (kk : zW G d M pc' (a0 :: a1 :: .int (nI (j + 1)) :: lv0) st n u μ nF uF Φ) : zW G d M pc (a0 :: a1 :: .int (nI j) :: lv0) st n u μ nF uF Φ :=
  z_inc2 hs hm (show nI j + Int32.ofInt 1 = nI (j + 1) from nI_1 j) k hd hp kk
theorem z_less2 {a0 a1 : Value} {w : Value} {lv0 : List Value} (kk : zW G d M pc (a0 :: a1 :: .retAddr 0 :: lv0) st n u μ nF uF Φ) : zW G d M pc (a0 :: a1 :: w :: lv0) st n u μ nF uF Φ := by
  intro p e R s m args below meth c n0 u0 B h1 h2 H locs ls hR hl hlv
  exact kk p e R s m args below meth c n0 u0 B h1 h2 H locs ls hR hl (zlv_less (i := 2) (a := 0) (lv := a0 :: a1 :: w :: lv0) hlv)
theorem z_il3 {a0 a1 a2 : Value} {lv0 : List Value} {x : Int32} (k : Nat) (hd : (mI M)[k]? = some (pc, .iload_n 3, 1)) (hp : pc + 1 = pc') (kk : zW G d M pc' (a0 :: a1 :: a2 :: .int x :: lv0) (.int x :: st) n u μ nF uF Φ) : zW G d M pc (a0 :: a1 :: a2 :: .int x :: lv0) (st) n u μ nF uF Φ := by
  subst hp
  intro p e R s m args below meth c n0 u0 B h1 h2 H locs ls hR hl hlv
  exact lv_iload_n B.1 B.2.1 (z_dec (zB_ok B) hd) rfl (zlv_at hlv (i := 3) (v := .int x) rfl rfl) (kk p e R s m args below meth c n0 u0 B h1 h2 H locs ls hR hl hlv)
theorem z_al3 {a0 a1 a2 : Value} {lv0 : List Value} {x : Nat} (k : Nat) (hd : (mI M)[k]? = some (pc, .aload_n 3, 1)) (hp : pc + 1 = pc') (kk : zW G d M pc' (a0 :: a1 :: a2 :: .ref x :: lv0) (.ref x :: st) n u μ nF uF Φ) : zW G d M pc (a0 :: a1 :: a2 :: .ref x :: lv0) (st) n u μ nF uF Φ := by
  subst hp
  intro p e R s m args below meth c n0 u0 B h1 h2 H locs ls hR hl hlv
  exact lv_aload_n B.1 B.2.1 (z_dec (zB_ok B) hd) rfl (zlv_at hlv (i := 3) (v := .ref x) rfl rfl) (kk p e R s m args below meth c n0 u0 B h1 h2 H locs ls hR hl hlv)
theorem z_is3 {a0 a1 a2 : Value} {w : Value} {lv0 : List Value} {x : Int32} (hs : Nat.beq a2.category 2 = false) (hm : Nat.ble 4 (mL M) = true) (k : Nat) (hd : (mI M)[k]? = some (pc, .istore_n 3, 1)) (hp : pc + 1 = pc') (kk : zW G d M pc' (a0 :: a1 :: a2 :: .int x :: lv0) (st) n u μ nF uF Φ) : zW G d M pc (a0 :: a1 :: a2 :: w :: lv0) (.int x :: st) n u μ nF uF Φ := by
  subst hp
  intro p e R s m args below meth c n0 u0 B h1 h2 H locs ls hR hl hlv
  exact lv_istore_n B.1 B.2.1 (z_dec (zB_ok B) hd) rfl hlv (Nat.le_of_ble_eq_true hm) rfl (fun ls1 hlv1 => kk p e R s m args below meth c n0 u0 B h1 h2 H locs ls1 hR hl (zlv_set (v := .int x) (lv := a0 :: a1 :: a2 :: w :: lv0) hlv1 (by show (a2.category != 2) = true; simpa using Nat.ne_of_beq_eq_false hs)))
theorem z_as3 {a0 a1 a2 : Value} {w : Value} {lv0 : List Value} {x : Nat} (hs : Nat.beq a2.category 2 = false) (hm : Nat.ble 4 (mL M) = true) (k : Nat) (hd : (mI M)[k]? = some (pc, .astore_n 3, 1)) (hp : pc + 1 = pc') (kk : zW G d M pc' (a0 :: a1 :: a2 :: .ref x :: lv0) (st) n u μ nF uF Φ) : zW G d M pc (a0 :: a1 :: a2 :: w :: lv0) (.ref x :: st) n u μ nF uF Φ := by
  subst hp
  intro p e R s m args below meth c n0 u0 B h1 h2 H locs ls hR hl hlv
  exact lv_astore_n B.1 B.2.1 (z_dec (zB_ok B) hd) rfl hlv (Nat.le_of_ble_eq_true hm) rfl (fun ls1 hlv1 => kk p e R s m args below meth c n0 u0 B h1 h2 H locs ls1 hR hl (zlv_set (v := .ref x) (lv := a0 :: a1 :: a2 :: w :: lv0) hlv1 (by show (a2.category != 2) = true; simpa using Nat.ne_of_beq_eq_false hs)))
theorem z_inc3 {a0 a1 a2 : Value} {lv0 : List Value} {x v : Int32} {z : Int} (hs : Nat.beq a2.category 2 = false) (hm : Nat.ble 4 (mL M) = true) (hv : x + Int32.ofInt z = v) (k : Nat) (hd : (mI M)[k]? = some (pc, .iinc 3 z, 3)) (hp : pc + 3 = pc') (kk : zW G d M pc' (a0 :: a1 :: a2 :: .int v :: lv0) st n u μ nF uF Φ) : zW G d M pc (a0 :: a1 :: a2 :: .int x :: lv0) st n u μ nF uF Φ := by
  subst hp
  intro p e R s m args below meth c n0 u0 B h1 h2 H locs ls hR hl hlv
  obtain ⟨k0, hk0⟩ := List.getElem?_of_mem ((zal_mem (G := G) (a0 :: a1 :: a2 :: .int x :: lv0) 0 (3, .int x)).mpr ⟨3, .int x, rfl, rfl, by rw [Nat.zero_add]; rfl⟩)
  exact lv_iinc B.1 B.2.1 (z_dec (zB_ok B) hd) hlv hk0 hv (Nat.le_of_ble_eq_true hm) rfl (fun ls1 hlv1 => kk p e R s m args below meth c n0 u0 B h1 h2 H locs ls1 hR hl (zlv_set (v := .int v) (lv := a0 :: a1 :: a2 :: .int x :: lv0) hlv1 (by show (a2.category != 2) = true; simpa using Nat.ne_of_beq_eq_false hs)))
theorem z_inc3N {a0 a1 a2 : Value} {lv0 : List Value} {j : Nat} (hs : Nat.beq a2.category 2 = false) (hm : Nat.ble 4 (mL M) = true) (k : Nat) (hd : (mI M)[k]? = some (pc, .iinc 3 1, 3)) (hp : pc + 3 = pc') (kk : zW G d M pc' (a0 :: a1 :: a2 :: .int (nI (j + 1)) :: lv0) st n u μ nF uF Φ) : zW G d M pc (a0 :: a1 :: a2 :: .int (nI j) :: lv0) st n u μ nF uF Φ :=
  z_inc3 hs hm (show nI j + Int32.ofInt 1 = nI (j + 1) from nI_1 j) k hd hp kk
theorem z_less3 {a0 a1 a2 : Value} {w : Value} {lv0 : List Value} (kk : zW G d M pc (a0 :: a1 :: a2 :: .retAddr 0 :: lv0) st n u μ nF uF Φ) : zW G d M pc (a0 :: a1 :: a2 :: w :: lv0) st n u μ nF uF Φ := by
  intro p e R s m args below meth c n0 u0 B h1 h2 H locs ls hR hl hlv
  exact kk p e R s m args below meth c n0 u0 B h1 h2 H locs ls hR hl (zlv_less (i := 3) (a := 0) (lv := a0 :: a1 :: a2 :: w :: lv0) hlv)
theorem z_il4 {a0 a1 a2 a3 : Value} {lv0 : List Value} {x : Int32} (k : Nat) (hd : (mI M)[k]? = some (pc, .iload 4, 2)) (hp : pc + 2 = pc') (kk : zW G d M pc' (a0 :: a1 :: a2 :: a3 :: .int x :: lv0) (.int x :: st) n u μ nF uF Φ) : zW G d M pc (a0 :: a1 :: a2 :: a3 :: .int x :: lv0) (st) n u μ nF uF Φ := by
  subst hp
  intro p e R s m args below meth c n0 u0 B h1 h2 H locs ls hR hl hlv
  exact lv_iload B.1 B.2.1 (z_dec (zB_ok B) hd) (zlv_at hlv (i := 4) (v := .int x) rfl rfl) (kk p e R s m args below meth c n0 u0 B h1 h2 H locs ls hR hl hlv)
theorem z_al4 {a0 a1 a2 a3 : Value} {lv0 : List Value} {x : Nat} (k : Nat) (hd : (mI M)[k]? = some (pc, .aload 4, 2)) (hp : pc + 2 = pc') (kk : zW G d M pc' (a0 :: a1 :: a2 :: a3 :: .ref x :: lv0) (.ref x :: st) n u μ nF uF Φ) : zW G d M pc (a0 :: a1 :: a2 :: a3 :: .ref x :: lv0) (st) n u μ nF uF Φ := by
  subst hp
  intro p e R s m args below meth c n0 u0 B h1 h2 H locs ls hR hl hlv
  exact lv_aload B.1 B.2.1 (z_dec (zB_ok B) hd) (zlv_at hlv (i := 4) (v := .ref x) rfl rfl) (kk p e R s m args below meth c n0 u0 B h1 h2 H locs ls hR hl hlv)
theorem z_is4 {a0 a1 a2 a3 : Value} {w : Value} {lv0 : List Value} {x : Int32} (hs : Nat.beq a3.category 2 = false) (hm : Nat.ble 5 (mL M) = true) (k : Nat) (hd : (mI M)[k]? = some (pc, .istore 4, 2)) (hp : pc + 2 = pc') (kk : zW G d M pc' (a0 :: a1 :: a2 :: a3 :: .int x :: lv0) (st) n u μ nF uF Φ) : zW G d M pc (a0 :: a1 :: a2 :: a3 :: w :: lv0) (.int x :: st) n u μ nF uF Φ := by
  subst hp
  intro p e R s m args below meth c n0 u0 B h1 h2 H locs ls hR hl hlv
  exact lv_istore B.1 B.2.1 (z_dec (zB_ok B) hd) hlv (Nat.le_of_ble_eq_true hm) rfl (fun ls1 hlv1 => kk p e R s m args below meth c n0 u0 B h1 h2 H locs ls1 hR hl (zlv_set (v := .int x) (lv := a0 :: a1 :: a2 :: a3 :: w :: lv0) hlv1 (by show (a3.category != 2) = true; simpa using Nat.ne_of_beq_eq_false hs)))
theorem z_as4 {a0 a1 a2 a3 : Value} {w : Value} {lv0 : List Value} {x : Nat} (hs : Nat.beq a3.category 2 = false) (hm : Nat.ble 5 (mL M) = true) (k : Nat) (hd : (mI M)[k]? = some (pc, .astore 4, 2)) (hp : pc + 2 = pc') (kk : zW G d M pc' (a0 :: a1 :: a2 :: a3 :: .ref x :: lv0) (st) n u μ nF uF Φ) : zW G d M pc (a0 :: a1 :: a2 :: a3 :: w :: lv0) (.ref x :: st) n u μ nF uF Φ := by
  subst hp
  intro p e R s m args below meth c n0 u0 B h1 h2 H locs ls hR hl hlv
  exact lv_astore B.1 B.2.1 (z_dec (zB_ok B) hd) hlv (Nat.le_of_ble_eq_true hm) rfl (fun ls1 hlv1 => kk p e R s m args below meth c n0 u0 B h1 h2 H locs ls1 hR hl (zlv_set (v := .ref x) (lv := a0 :: a1 :: a2 :: a3 :: w :: lv0) hlv1 (by show (a3.category != 2) = true; simpa using Nat.ne_of_beq_eq_false hs)))
theorem z_inc4 {a0 a1 a2 a3 : Value} {lv0 : List Value} {x v : Int32} {z : Int} (hs : Nat.beq a3.category 2 = false) (hm : Nat.ble 5 (mL M) = true) (hv : x + Int32.ofInt z = v) (k : Nat) (hd : (mI M)[k]? = some (pc, .iinc 4 z, 3)) (hp : pc + 3 = pc') (kk : zW G d M pc' (a0 :: a1 :: a2 :: a3 :: .int v :: lv0) st n u μ nF uF Φ) : zW G d M pc (a0 :: a1 :: a2 :: a3 :: .int x :: lv0) st n u μ nF uF Φ := by
  subst hp
  intro p e R s m args below meth c n0 u0 B h1 h2 H locs ls hR hl hlv
  obtain ⟨k0, hk0⟩ := List.getElem?_of_mem ((zal_mem (G := G) (a0 :: a1 :: a2 :: a3 :: .int x :: lv0) 0 (4, .int x)).mpr ⟨4, .int x, rfl, rfl, by rw [Nat.zero_add]; rfl⟩)
  exact lv_iinc B.1 B.2.1 (z_dec (zB_ok B) hd) hlv hk0 hv (Nat.le_of_ble_eq_true hm) rfl (fun ls1 hlv1 => kk p e R s m args below meth c n0 u0 B h1 h2 H locs ls1 hR hl (zlv_set (v := .int v) (lv := a0 :: a1 :: a2 :: a3 :: .int x :: lv0) hlv1 (by show (a3.category != 2) = true; simpa using Nat.ne_of_beq_eq_false hs)))
theorem z_inc4N {a0 a1 a2 a3 : Value} {lv0 : List Value} {j : Nat} (hs : Nat.beq a3.category 2 = false) (hm : Nat.ble 5 (mL M) = true) (k : Nat) (hd : (mI M)[k]? = some (pc, .iinc 4 1, 3)) (hp : pc + 3 = pc') (kk : zW G d M pc' (a0 :: a1 :: a2 :: a3 :: .int (nI (j + 1)) :: lv0) st n u μ nF uF Φ) : zW G d M pc (a0 :: a1 :: a2 :: a3 :: .int (nI j) :: lv0) st n u μ nF uF Φ :=
  z_inc4 hs hm (show nI j + Int32.ofInt 1 = nI (j + 1) from nI_1 j) k hd hp kk
theorem z_less4 {a0 a1 a2 a3 : Value} {w : Value} {lv0 : List Value} (kk : zW G d M pc (a0 :: a1 :: a2 :: a3 :: .retAddr 0 :: lv0) st n u μ nF uF Φ) : zW G d M pc (a0 :: a1 :: a2 :: a3 :: w :: lv0) st n u μ nF uF Φ := by
  intro p e R s m args below meth c n0 u0 B h1 h2 H locs ls hR hl hlv
  exact kk p e R s m args below meth c n0 u0 B h1 h2 H locs ls hR hl (zlv_less (i := 4) (a := 0) (lv := a0 :: a1 :: a2 :: a3 :: w :: lv0) hlv)
theorem z_il5 {a0 a1 a2 a3 a4 : Value} {lv0 : List Value} {x : Int32} (k : Nat) (hd : (mI M)[k]? = some (pc, .iload 5, 2)) (hp : pc + 2 = pc') (kk : zW G d M pc' (a0 :: a1 :: a2 :: a3 :: a4 :: .int x :: lv0) (.int x :: st) n u μ nF uF Φ) : zW G d M pc (a0 :: a1 :: a2 :: a3 :: a4 :: .int x :: lv0) (st) n u μ nF uF Φ := by
  subst hp
  intro p e R s m args below meth c n0 u0 B h1 h2 H locs ls hR hl hlv
  exact lv_iload B.1 B.2.1 (z_dec (zB_ok B) hd) (zlv_at hlv (i := 5) (v := .int x) rfl rfl) (kk p e R s m args below meth c n0 u0 B h1 h2 H locs ls hR hl hlv)
theorem z_al5 {a0 a1 a2 a3 a4 : Value} {lv0 : List Value} {x : Nat} (k : Nat) (hd : (mI M)[k]? = some (pc, .aload 5, 2)) (hp : pc + 2 = pc') (kk : zW G d M pc' (a0 :: a1 :: a2 :: a3 :: a4 :: .ref x :: lv0) (.ref x :: st) n u μ nF uF Φ) : zW G d M pc (a0 :: a1 :: a2 :: a3 :: a4 :: .ref x :: lv0) (st) n u μ nF uF Φ := by
  subst hp
  intro p e R s m args below meth c n0 u0 B h1 h2 H locs ls hR hl hlv
  exact lv_aload B.1 B.2.1 (z_dec (zB_ok B) hd) (zlv_at hlv (i := 5) (v := .ref x) rfl rfl) (kk p e R s m args below meth c n0 u0 B h1 h2 H locs ls hR hl hlv)
theorem z_is5 {a0 a1 a2 a3 a4 : Value} {w : Value} {lv0 : List Value} {x : Int32} (hs : Nat.beq a4.category 2 = false) (hm : Nat.ble 6 (mL M) = true) (k : Nat) (hd : (mI M)[k]? = some (pc, .istore 5, 2)) (hp : pc + 2 = pc') (kk : zW G d M pc' (a0 :: a1 :: a2 :: a3 :: a4 :: .int x :: lv0) (st) n u μ nF uF Φ) : zW G d M pc (a0 :: a1 :: a2 :: a3 :: a4 :: w :: lv0) (.int x :: st) n u μ nF uF Φ := by
  subst hp
  intro p e R s m args below meth c n0 u0 B h1 h2 H locs ls hR hl hlv
  exact lv_istore B.1 B.2.1 (z_dec (zB_ok B) hd) hlv (Nat.le_of_ble_eq_true hm) rfl (fun ls1 hlv1 => kk p e R s m args below meth c n0 u0 B h1 h2 H locs ls1 hR hl (zlv_set (v := .int x) (lv := a0 :: a1 :: a2 :: a3 :: a4 :: w :: lv0) hlv1 (by show (a4.category != 2) = true; simpa using Nat.ne_of_beq_eq_false hs)))
theorem z_as5 {a0 a1 a2 a3 a4 : Value} {w : Value} {lv0 : List Value} {x : Nat} (hs : Nat.beq a4.category 2 = false) (hm : Nat.ble 6 (mL M) = true) (k : Nat) (hd : (mI M)[k]? = some (pc, .astore 5, 2)) (hp : pc + 2 = pc') (kk : zW G d M pc' (a0 :: a1 :: a2 :: a3 :: a4 :: .ref x :: lv0) (st) n u μ nF uF Φ) : zW G d M pc (a0 :: a1 :: a2 :: a3 :: a4 :: w :: lv0) (.ref x :: st) n u μ nF uF Φ := by
  subst hp
  intro p e R s m args below meth c n0 u0 B h1 h2 H locs ls hR hl hlv
  exact lv_astore B.1 B.2.1 (z_dec (zB_ok B) hd) hlv (Nat.le_of_ble_eq_true hm) rfl (fun ls1 hlv1 => kk p e R s m args below meth c n0 u0 B h1 h2 H locs ls1 hR hl (zlv_set (v := .ref x) (lv := a0 :: a1 :: a2 :: a3 :: a4 :: w :: lv0) hlv1 (by show (a4.category != 2) = true; simpa using Nat.ne_of_beq_eq_false hs)))
theorem z_inc5 {a0 a1 a2 a3 a4 : Value} {lv0 : List Value} {x v : Int32} {z : Int} (hs : Nat.beq a4.category 2 = false) (hm : Nat.ble 6 (mL M) = true) (hv : x + Int32.ofInt z = v) (k : Nat) (hd : (mI M)[k]? = some (pc, .iinc 5 z, 3)) (hp : pc + 3 = pc') (kk : zW G d M pc' (a0 :: a1 :: a2 :: a3 :: a4 :: .int v :: lv0) st n u μ nF uF Φ) : zW G d M pc (a0 :: a1 :: a2 :: a3 :: a4 :: .int x :: lv0) st n u μ nF uF Φ := by
  subst hp
  intro p e R s m args below meth c n0 u0 B h1 h2 H locs ls hR hl hlv
  obtain ⟨k0, hk0⟩ := List.getElem?_of_mem ((zal_mem (G := G) (a0 :: a1 :: a2 :: a3 :: a4 :: .int x :: lv0) 0 (5, .int x)).mpr ⟨5, .int x, rfl, rfl, by rw [Nat.zero_add]; rfl⟩)
  exact lv_iinc B.1 B.2.1 (z_dec (zB_ok B) hd) hlv hk0 hv (Nat.le_of_ble_eq_true hm) rfl (fun ls1 hlv1 => kk p e R s m args below meth c n0 u0 B h1 h2 H locs ls1 hR hl (zlv_set (v := .int v) (lv := a0 :: a1 :: a2 :: a3 :: a4 :: .int x :: lv0) hlv1 (by show (a4.category != 2) = true; simpa using Nat.ne_of_beq_eq_false hs)))
theorem z_inc5N {a0 a1 a2 a3 a4 : Value} {lv0 : List Value} {j : Nat} (hs : Nat.beq a4.category 2 = false) (hm : Nat.ble 6 (mL M) = true) (k : Nat) (hd : (mI M)[k]? = some (pc, .iinc 5 1, 3)) (hp : pc + 3 = pc') (kk : zW G d M pc' (a0 :: a1 :: a2 :: a3 :: a4 :: .int (nI (j + 1)) :: lv0) st n u μ nF uF Φ) : zW G d M pc (a0 :: a1 :: a2 :: a3 :: a4 :: .int (nI j) :: lv0) st n u μ nF uF Φ :=
  z_inc5 hs hm (show nI j + Int32.ofInt 1 = nI (j + 1) from nI_1 j) k hd hp kk
theorem z_less5 {a0 a1 a2 a3 a4 : Value} {w : Value} {lv0 : List Value} (kk : zW G d M pc (a0 :: a1 :: a2 :: a3 :: a4 :: .retAddr 0 :: lv0) st n u μ nF uF Φ) : zW G d M pc (a0 :: a1 :: a2 :: a3 :: a4 :: w :: lv0) st n u μ nF uF Φ := by
  intro p e R s m args below meth c n0 u0 B h1 h2 H locs ls hR hl hlv
  exact kk p e R s m args below meth c n0 u0 B h1 h2 H locs ls hR hl (zlv_less (i := 5) (a := 0) (lv := a0 :: a1 :: a2 :: a3 :: a4 :: w :: lv0) hlv)
theorem z_il6 {a0 a1 a2 a3 a4 a5 : Value} {lv0 : List Value} {x : Int32} (k : Nat) (hd : (mI M)[k]? = some (pc, .iload 6, 2)) (hp : pc + 2 = pc') (kk : zW G d M pc' (a0 :: a1 :: a2 :: a3 :: a4 :: a5 :: .int x :: lv0) (.int x :: st) n u μ nF uF Φ) : zW G d M pc (a0 :: a1 :: a2 :: a3 :: a4 :: a5 :: .int x :: lv0) (st) n u μ nF uF Φ := by
  subst hp
  intro p e R s m args below meth c n0 u0 B h1 h2 H locs ls hR hl hlv
  exact lv_iload B.1 B.2.1 (z_dec (zB_ok B) hd) (zlv_at hlv (i := 6) (v := .int x) rfl rfl) (kk p e R s m args below meth c n0 u0 B h1 h2 H locs ls hR hl hlv)
theorem z_al6 {a0 a1 a2 a3 a4 a5 : Value} {lv0 : List Value} {x : Nat} (k : Nat) (hd : (mI M)[k]? = some (pc, .aload 6, 2)) (hp : pc + 2 = pc') (kk : zW G d M pc' (a0 :: a1 :: a2 :: a3 :: a4 :: a5 :: .ref x :: lv0) (.ref x :: st) n u μ nF uF Φ) : zW G d M pc (a0 :: a1 :: a2 :: a3 :: a4 :: a5 :: .ref x :: lv0) (st) n u μ nF uF Φ := by
  subst hp
  intro p e R s m args below meth c n0 u0 B h1 h2 H locs ls hR hl hlv
  exact lv_aload B.1 B.2.1 (z_dec (zB_ok B) hd) (zlv_at hlv (i := 6) (v := .ref x) rfl rfl) (kk p e R s m args below meth c n0 u0 B h1 h2 H locs ls hR hl hlv)
theorem z_is6 {a0 a1 a2 a3 a4 a5 : Value} {w : Value} {lv0 : List Value} {x : Int32} (hs : Nat.beq a5.category 2 = false) (hm : Nat.ble 7 (mL M) = true) (k : Nat) (hd : (mI M)[k]? = some (pc, .istore 6, 2)) (hp : pc + 2 = pc') (kk : zW G d M pc' (a0 :: a1 :: a2 :: a3 :: a4 :: a5 :: .int x :: lv0) (st) n u μ nF uF Φ) : zW G d M pc (a0 :: a1 :: a2 :: a3 :: a4 :: a5 :: w :: lv0) (.int x :: st) n u μ nF uF Φ := by
  subst hp
  intro p e R s m args below meth c n0 u0 B h1 h2 H locs ls hR hl hlv
  exact lv_istore B.1 B.2.1 (z_dec (zB_ok B) hd) hlv (Nat.le_of_ble_eq_true hm) rfl (fun ls1 hlv1 => kk p e R s m args below meth c n0 u0 B h1 h2 H locs ls1 hR hl (zlv_set (v := .int x) (lv := a0 :: a1 :: a2 :: a3 :: a4 :: a5 :: w :: lv0) hlv1 (by show (a5.category != 2) = true; simpa using Nat.ne_of_beq_eq_false hs)))
theorem z_as6 {a0 a1 a2 a3 a4 a5 : Value} {w : Value} {lv0 : List Value} {x : Nat} (hs : Nat.beq a5.category 2 = false) (hm : Nat.ble 7 (mL M) = true) (k : Nat) (hd : (mI M)[k]? = some (pc, .astore 6, 2)) (hp : pc + 2 = pc') (kk : zW G d M pc' (a0 :: a1 :: a2 :: a3 :: a4 :: a5 :: .ref x :: lv0) (st) n u μ nF uF Φ) : zW G d M pc (a0 :: a1 :: a2 :: a3 :: a4 :: a5 :: w :: lv0) (.ref x :: st) n u μ nF uF Φ := by
  subst hp
  intro p e R s m args below meth c n0 u0 B h1 h2 H locs ls hR hl hlv
  exact lv_astore B.1 B.2.1 (z_dec (zB_ok B) hd) hlv (Nat.le_of_ble_eq_true hm) rfl (fun ls1 hlv1 => kk p e R s m args below meth c n0 u0 B h1 h2 H locs ls1 hR hl (zlv_set (v := .ref x) (lv := a0 :: a1 :: a2 :: a3 :: a4 :: a5 :: w :: lv0) hlv1 (by show (a5.category != 2) = true; simpa using Nat.ne_of_beq_eq_false hs)))
theorem z_inc6 {a0 a1 a2 a3 a4 a5 : Value} {lv0 : List Value} {x v : Int32} {z : Int} (hs : Nat.beq a5.category 2 = false) (hm : Nat.ble 7 (mL M) = true) (hv : x + Int32.ofInt z = v) (k : Nat) (hd : (mI M)[k]? = some (pc, .iinc 6 z, 3)) (hp : pc + 3 = pc') (kk : zW G d M pc' (a0 :: a1 :: a2 :: a3 :: a4 :: a5 :: .int v :: lv0) st n u μ nF uF Φ) : zW G d M pc (a0 :: a1 :: a2 :: a3 :: a4 :: a5 :: .int x :: lv0) st n u μ nF uF Φ := by
  subst hp
  intro p e R s m args below meth c n0 u0 B h1 h2 H locs ls hR hl hlv
  obtain ⟨k0, hk0⟩ := List.getElem?_of_mem ((zal_mem (G := G) (a0 :: a1 :: a2 :: a3 :: a4 :: a5 :: .int x :: lv0) 0 (6, .int x)).mpr ⟨6, .int x, rfl, rfl, by rw [Nat.zero_add]; rfl⟩)
  exact lv_iinc B.1 B.2.1 (z_dec (zB_ok B) hd) hlv hk0 hv (Nat.le_of_ble_eq_true hm) rfl (fun ls1 hlv1 => kk p e R s m args below meth c n0 u0 B h1 h2 H locs ls1 hR hl (zlv_set (v := .int v) (lv := a0 :: a1 :: a2 :: a3 :: a4 :: a5 :: .int x :: lv0) hlv1 (by show (a5.category != 2) = true; simpa using Nat.ne_of_beq_eq_false hs)))
theorem z_inc6N {a0 a1 a2 a3 a4 a5 : Value} {lv0 : List Value} {j : Nat} (hs : Nat.beq a5.category 2 = false) (hm : Nat.ble 7 (mL M) = true) (k : Nat) (hd : (mI M)[k]? = some (pc, .iinc 6 1, 3)) (hp : pc + 3 = pc') (kk : zW G d M pc' (a0 :: a1 :: a2 :: a3 :: a4 :: a5 :: .int (nI (j + 1)) :: lv0) st n u μ nF uF Φ) : zW G d M pc (a0 :: a1 :: a2 :: a3 :: a4 :: a5 :: .int (nI j) :: lv0) st n u μ nF uF Φ :=
  z_inc6 hs hm (show nI j + Int32.ofInt 1 = nI (j + 1) from nI_1 j) k hd hp kk
theorem z_less6 {a0 a1 a2 a3 a4 a5 : Value} {w : Value} {lv0 : List Value} (kk : zW G d M pc (a0 :: a1 :: a2 :: a3 :: a4 :: a5 :: .retAddr 0 :: lv0) st n u μ nF uF Φ) : zW G d M pc (a0 :: a1 :: a2 :: a3 :: a4 :: a5 :: w :: lv0) st n u μ nF uF Φ := by
  intro p e R s m args below meth c n0 u0 B h1 h2 H locs ls hR hl hlv
  exact kk p e R s m args below meth c n0 u0 B h1 h2 H locs ls hR hl (zlv_less (i := 6) (a := 0) (lv := a0 :: a1 :: a2 :: a3 :: a4 :: a5 :: w :: lv0) hlv)
theorem z_il7 {a0 a1 a2 a3 a4 a5 a6 : Value} {lv0 : List Value} {x : Int32} (k : Nat) (hd : (mI M)[k]? = some (pc, .iload 7, 2)) (hp : pc + 2 = pc') (kk : zW G d M pc' (a0 :: a1 :: a2 :: a3 :: a4 :: a5 :: a6 :: .int x :: lv0) (.int x :: st) n u μ nF uF Φ) : zW G d M pc (a0 :: a1 :: a2 :: a3 :: a4 :: a5 :: a6 :: .int x :: lv0) (st) n u μ nF uF Φ := by
  subst hp
  intro p e R s m args below meth c n0 u0 B h1 h2 H locs ls hR hl hlv
  exact lv_iload B.1 B.2.1 (z_dec (zB_ok B) hd) (zlv_at hlv (i := 7) (v := .int x) rfl rfl) (kk p e R s m args below meth c n0 u0 B h1 h2 H locs ls hR hl hlv)
theorem z_al7 {a0 a1 a2 a3 a4 a5 a6 : Value} {lv0 : List Value} {x : Nat} (k : Nat) (hd : (mI M)[k]? = some (pc, .aload 7, 2)) (hp : pc + 2 = pc') (kk : zW G d M pc' (a0 :: a1 :: a2 :: a3 :: a4 :: a5 :: a6 :: .ref x :: lv0) (.ref x :: st) n u μ nF uF Φ) : zW G d M pc (a0 :: a1 :: a2 :: a3 :: a4 :: a5 :: a6 :: .ref x :: lv0) (st) n u μ nF uF Φ := by
  subst hp
  intro p e R s m args below meth c n0 u0 B h1 h2 H locs ls hR hl hlv
  exact lv_aload B.1 B.2.1 (z_dec (zB_ok B) hd) (zlv_at hlv (i := 7) (v := .ref x) rfl rfl) (kk p e R s m args below meth c n0 u0 B h1 h2 H locs ls hR hl hlv)
theorem z_is7 {a0 a1 a2 a3 a4 a5 a6 : Value} {w : Value} {lv0 : List Value} {x : Int32} (hs : Nat.beq a6.category 2 = false) (hm : Nat.ble 8 (mL M) = true) (k : Nat) (hd : (mI M)[k]? = some (pc, .istore 7, 2)) (hp : pc + 2 = pc') (kk : zW G d M pc' (a0 :: a1 :: a2 :: a3 :: a4 :: a5 :: a6 :: .int x :: lv0) (st) n u μ nF uF Φ) : zW G d M pc (a0 :: a1 :: a2 :: a3 :: a4 :: a5 :: a6 :: w :: lv0) (.int x :: st) n u μ nF uF Φ := by
  subst hp
  intro p e R s m args below meth c n0 u0 B h1 h2 H locs ls hR hl hlv
  exact lv_istore B.1 B.2.1 (z_dec (zB_ok B) hd) hlv (Nat.le_of_ble_eq_true hm) rfl (fun ls1 hlv1 => kk p e R s m args below meth c n0 u0 B h1 h2 H locs ls1 hR hl (zlv_set (v := .int x) (lv := a0 :: a1 :: a2 :: a3 :: a4 :: a5 :: a6 :: w :: lv0) hlv1 (by show (a6.category != 2) = true; simpa using Nat.ne_of_beq_eq_false hs)))
theorem z_as7 {a0 a1 a2 a3 a4 a5 a6 : Value} {w : Value} {lv0 : List Value} {x : Nat} (hs : Nat.beq a6.category 2 = false) (hm : Nat.ble 8 (mL M) = true) (k : Nat) (hd : (mI M)[k]? = some (pc, .astore 7, 2)) (hp : pc + 2 = pc') (kk : zW G d M pc' (a0 :: a1 :: a2 :: a3 :: a4 :: a5 :: a6 :: .ref x :: lv0) (st) n u μ nF uF Φ) : zW G d M pc (a0 :: a1 :: a2 :: a3 :: a4 :: a5 :: a6 :: w :: lv0) (.ref x :: st) n u μ nF uF Φ := by
  subst hp
  intro p e R s m args below meth c n0 u0 B h1 h2 H locs ls hR hl hlv
  exact lv_astore B.1 B.2.1 (z_dec (zB_ok B) hd) hlv (Nat.le_of_ble_eq_true hm) rfl (fun ls1 hlv1 => kk p e R s m args below meth c n0 u0 B h1 h2 H locs ls1 hR hl (zlv_set (v := .ref x) (lv := a0 :: a1 :: a2 :: a3 :: a4 :: a5 :: a6 :: w :: lv0) hlv1 (by show (a6.category != 2) = true; simpa using Nat.ne_of_beq_eq_false hs)))
theorem z_inc7 {a0 a1 a2 a3 a4 a5 a6 : Value} {lv0 : List Value} {x v : Int32} {z : Int} (hs : Nat.beq a6.category 2 = false) (hm : Nat.ble 8 (mL M) = true) (hv : x + Int32.ofInt z = v) (k : Nat) (hd : (mI M)[k]? = some (pc, .iinc 7 z, 3)) (hp : pc + 3 = pc') (kk : zW G d M pc' (a0 :: a1 :: a2 :: a3 :: a4 :: a5 :: a6 :: .int v :: lv0) st n u μ nF uF Φ) : zW G d M pc (a0 :: a1 :: a2 :: a3 :: a4 :: a5 :: a6 :: .int x :: lv0) st n u μ nF uF Φ := by
  subst hp
  intro p e R s m args below meth c n0 u0 B h1 h2 H locs ls hR hl hlv
  obtain ⟨k0, hk0⟩ := List.getElem?_of_mem ((zal_mem (G := G) (a0 :: a1 :: a2 :: a3 :: a4 :: a5 :: a6 :: .int x :: lv0) 0 (7, .int x)).mpr ⟨7, .int x, rfl, rfl, by rw [Nat.zero_add]; rfl⟩)
  exact lv_iinc B.1 B.2.1 (z_dec (zB_ok B) hd) hlv hk0 hv (Nat.le_of_ble_eq_true hm) rfl (fun ls1 hlv1 => kk p e R s m args below meth c n0 u0 B h1 h2 H locs ls1 hR hl (zlv_set (v := .int v) (lv := a0 :: a1 :: a2 :: a3 :: a4 :: a5 :: a6 :: .int x :: lv0) hlv1 (by show (a6.category != 2) = true; simpa using Nat.ne_of_beq_eq_false hs)))
theorem z_inc7N {a0 a1 a2 a3 a4 a5 a6 : Value} {lv0 : List Value} {j : Nat} (hs : Nat.beq a6.category 2 = false) (hm : Nat.ble 8 (mL M) = true) (k : Nat) (hd : (mI M)[k]? = some (pc, .iinc 7 1, 3)) (hp : pc + 3 = pc') (kk : zW G d M pc' (a0 :: a1 :: a2 :: a3 :: a4 :: a5 :: a6 :: .int (nI (j + 1)) :: lv0) st n u μ nF uF Φ) : zW G d M pc (a0 :: a1 :: a2 :: a3 :: a4 :: a5 :: a6 :: .int (nI j) :: lv0) st n u μ nF uF Φ :=
  z_inc7 hs hm (show nI j + Int32.ofInt 1 = nI (j + 1) from nI_1 j) k hd hp kk
theorem z_less7 {a0 a1 a2 a3 a4 a5 a6 : Value} {w : Value} {lv0 : List Value} (kk : zW G d M pc (a0 :: a1 :: a2 :: a3 :: a4 :: a5 :: a6 :: .retAddr 0 :: lv0) st n u μ nF uF Φ) : zW G d M pc (a0 :: a1 :: a2 :: a3 :: a4 :: a5 :: a6 :: w :: lv0) st n u μ nF uF Φ := by
  intro p e R s m args below meth c n0 u0 B h1 h2 H locs ls hR hl hlv
  exact kk p e R s m args below meth c n0 u0 B h1 h2 H locs ls hR hl (zlv_less (i := 7) (a := 0) (lv := a0 :: a1 :: a2 :: a3 :: a4 :: a5 :: a6 :: w :: lv0) hlv)
theorem z_il8 {a0 a1 a2 a3 a4 a5 a6 a7 : Value} {lv0 : List Value} {x : Int32} (k : Nat) (hd : (mI M)[k]? = some (pc, .iload 8, 2)) (hp : pc + 2 = pc') (kk : zW G d M pc' (a0 :: a1 :: a2 :: a3 :: a4 :: a5 :: a6 :: a7 :: .int x :: lv0) (.int x :: st) n u μ nF uF Φ) : zW G d M pc (a0 :: a1 :: a2 :: a3 :: a4 :: a5 :: a6 :: a7 :: .int x :: lv0) (st) n u μ nF uF Φ := by
  subst hp
  intro p e R s m args below meth c n0 u0 B h1 h2 H locs ls hR hl hlv
  exact lv_iload B.1 B.2.1 (z_dec (zB_ok B) hd) (zlv_at hlv (i := 8) (v := .int x) rfl rfl) (kk p e R s m args below meth c n0 u0 B h1 h2 H locs ls hR hl hlv)
theorem z_al8 {a0 a1 a2 a3 a4 a5 a6 a7 : Value} {lv0 : List Value} {x : Nat} (k : Nat) (hd : (mI M)[k]? = some (pc, .aload 8, 2)) (hp : pc + 2 = pc') (kk : zW G d M pc' (a0 :: a1 :: a2 :: a3 :: a4 :: a5 :: a6 :: a7 :: .ref x :: lv0) (.ref x :: st) n u μ nF uF Φ) : zW G d M pc (a0 :: a1 :: a2 :: a3 :: a4 :: a5 :: a6 :: a7 :: .ref x :: lv0) (st) n u μ nF uF Φ := by
  subst hp
  intro p e R s m args below meth c n0 u0 B h1 h2 H locs ls hR hl hlv
  exact lv_aload B.1 B.2.1 (z_dec (zB_ok B) hd) (zlv_at hlv (i := 8) (v := .ref x) rfl rfl) (kk p e R s m args below meth c n0 u0 B h1 h2 H locs ls hR hl hlv)
theorem z_is8 {a0 a1 a2 a3 a4 a5 a6 a7 : Value} {w : Value} {lv0 : List Value} {x : Int32} (hs : Nat.beq a7.category 2 = false) (hm : Nat.ble 9 (mL M) = true) (k : Nat) (hd : (mI M)[k]? = some (pc, .istore 8, 2)) (hp : pc + 2 = pc') (kk : zW G d M pc' (a0 :: a1 :: a2 :: a3 :: a4 :: a5 :: a6 :: a7 :: .int x :: lv0) (st) n u μ nF uF Φ) : zW G d M pc (a0 :: a1 :: a2 :: a3 :: a4 :: a5 :: a6 :: a7 :: w :: lv0) (.int x :: st) n u μ nF uF Φ := by
  subst hp
  intro p e R s m args below meth c n0 u0 B h1 h2 H locs ls hR hl hlv
  exact lv_istore B.1 B.2.1 (z_dec (zB_ok B) hd) hlv (Nat.le_of_ble_eq_true hm) rfl (fun ls1 hlv1 => kk p e R s m args below meth c n0 u0 B h1 h2 H locs ls1 hR hl (zlv_set (v := .int x) (lv := a0 :: a1 :: a2 :: a3 :: a4 :: a5 :: a6 :: a7 :: w :: lv0) hlv1 (by show (a7.category != 2) = true; simpa using Nat.ne_of_beq_eq_false hs)))
theorem z_as8 {a0 a1 a2 a3 a4 a5 a6 a7 : Value} {w : Value} {lv0 : List Value} {x : Nat} (hs : Nat.beq a7.category 2 = false) (hm : Nat.ble 9 (mL M) = true) (k : Nat) (hd : (mI M)[k]? = some (pc, .astore 8, 2)) (hp : pc + 2 = pc') (kk : zW G d M pc' (a0 :: a1 :: a2 :: a3 :: a4 :: a5 :: a6 :: a7 :: .ref x :: lv0) (st) n u μ nF uF Φ) : zW G d M pc (a0 :: a1 :: a2 :: a3 :: a4 :: a5 :: a6 :: a7 :: w :: lv0) (.ref x :: st) n u μ nF uF Φ := by
  subst hp
  intro p e R s m args below meth c n0 u0 B h1 h2 H locs ls hR hl hlv
  exact lv_astore B.1 B.2.1 (z_dec (zB_ok B) hd) hlv (Nat.le_of_ble_eq_true hm) rfl (fun ls1 hlv1 => kk p e R s m args below meth c n0 u0 B h1 h2 H locs ls1 hR hl (zlv_set (v := .ref x) (lv := a0 :: a1 :: a2 :: a3 :: a4 :: a5 :: a6 :: a7 :: w :: lv0) hlv1 (by show (a7.category != 2) = true; simpa using Nat.ne_of_beq_eq_false hs)))
theorem z_inc8 {a0 a1 a2 a3 a4 a5 a6 a7 : Value} {lv0 : List Value} {x v : Int32} {z : Int} (hs : Nat.beq a7.category 2 = false) (hm : Nat.ble 9 (mL M) = true) (hv : x + Int32.ofInt z = v) (k : Nat) (hd : (mI M)[k]? = some (pc, .iinc 8 z, 3)) (hp : pc + 3 = pc') (kk : zW G d M pc' (a0 :: a1 :: a2 :: a3 :: a4 :: a5 :: a6 :: a7 :: .int v :: lv0) st n u μ nF uF Φ) : zW G d M pc (a0 :: a1 :: a2 :: a3 :: a4 :: a5 :: a6 :: a7 :: .int x :: lv0) st n u μ nF uF Φ := by
  subst hp
  intro p e R s m args below meth c n0 u0 B h1 h2 H locs ls hR hl hlv
  obtain ⟨k0, hk0⟩ := List.getElem?_of_mem ((zal_mem (G := G) (a0 :: a1 :: a2 :: a3 :: a4 :: a5 :: a6 :: a7 :: .int x :: lv0) 0 (8, .int x)).mpr ⟨8, .int x, rfl, rfl, by rw [Nat.zero_add]; rfl⟩)
  exact lv_iinc B.1 B.2.1 (z_dec (zB_ok B) hd) hlv hk0 hv (Nat.le_of_ble_eq_true hm) rfl (fun ls1 hlv1 => kk p e R s m args below meth c n0 u0 B h1 h2 H locs ls1 hR hl (zlv_set (v := .int v) (lv := a0 :: a1 :: a2 :: a3 :: a4 :: a5 :: a6 :: a7 :: .int x :: lv0) hlv1 (by show (a7.category != 2) = true; simpa using Nat.ne_of_beq_eq_false hs)))
theorem z_inc8N {a0 a1 a2 a3 a4 a5 a6 a7 : Value} {lv0 : List Value} {j : Nat} (hs : Nat.beq a7.category 2 = false) (hm : Nat.ble 9 (mL M) = true) (k : Nat) (hd : (mI M)[k]? = some (pc, .iinc 8 1, 3)) (hp : pc + 3 = pc') (kk : zW G d M pc' (a0 :: a1 :: a2 :: a3 :: a4 :: a5 :: a6 :: a7 :: .int (nI (j + 1)) :: lv0) st n u μ nF uF Φ) : zW G d M pc (a0 :: a1 :: a2 :: a3 :: a4 :: a5 :: a6 :: a7 :: .int (nI j) :: lv0) st n u μ nF uF Φ :=
  z_inc8 hs hm (show nI j + Int32.ofInt 1 = nI (j + 1) from nI_1 j) k hd hp kk
theorem z_less8 {a0 a1 a2 a3 a4 a5 a6 a7 : Value} {w : Value} {lv0 : List Value} (kk : zW G d M pc (a0 :: a1 :: a2 :: a3 :: a4 :: a5 :: a6 :: a7 :: .retAddr 0 :: lv0) st n u μ nF uF Φ) : zW G d M pc (a0 :: a1 :: a2 :: a3 :: a4 :: a5 :: a6 :: a7 :: w :: lv0) st n u μ nF uF Φ := by
  intro p e R s m args below meth c n0 u0 B h1 h2 H locs ls hR hl hlv
  exact kk p e R s m args below meth c n0 u0 B h1 h2 H locs ls hR hl (zlv_less (i := 8) (a := 0) (lv := a0 :: a1 :: a2 :: a3 :: a4 :: a5 :: a6 :: a7 :: w :: lv0) hlv)
theorem z_if_eq {x : Int32} {off : Int} {tgt : Nat} (k : Nat) (hd : (mI M)[k]? = some (pc, .ifCond .eq off, 3)) (hp : pc + 3 = pc') (ht : (pc : Int) + off = (tgt : Int)) (kt : x = 0 → zW G d M tgt lv st n u μ nF uF Φ) (kf : ¬ x = 0 → zW G d M pc' lv st n u μ nF uF Φ) : zW G d M pc lv (.int x :: st) n u μ nF uF Φ := by
  subst hp
  intro p e R s m args below meth c n0 u0 B h1 h2 H locs ls hR hl hlv
  exact lv_if_eq B.1 B.2.1 (z_dec (zB_ok B) hd) ht (fun hc => kt hc p e R s m args below meth c n0 u0 B h1 h2 H locs ls hR hl hlv) (fun hc => kf hc p e R s m args below meth c n0 u0 B h1 h2 H locs ls hR hl hlv)
theorem z_if_ne {x : Int32} {off : Int} {tgt : Nat} (k : Nat) (hd : (mI M)[k]? = some (pc, .ifCond .ne off, 3)) (hp : pc + 3 = pc') (ht : (pc : Int) + off = (tgt : Int)) (kt : ¬ x = 0 → zW G d M tgt lv st n u μ nF uF Φ) (kf : x = 0 → zW G d M pc' lv st n u μ nF uF Φ) : zW G d M pc lv (.int x :: st) n u μ nF uF Φ := by
  subst hp
  intro p e R s m args below meth c n0 u0 B h1 h2 H locs ls hR hl hlv
  exact lv_if_ne B.1 B.2.1 (z_dec (zB_ok B) hd) ht (fun hc => kt hc p e R s m args below meth c n0 u0 B h1 h2 H locs ls hR hl hlv) (fun hc => kf hc p e R s m args below meth c n0 u0 B h1 h2 H locs ls hR hl hlv)
theorem z_if_lt {x : Int32} {off : Int} {tgt : Nat} (k : Nat) (hd : (mI M)[k]? = some (pc, .ifCond .lt off, 3)) (hp : pc + 3 = pc') (ht : (pc : Int) + off = (tgt : Int)) (kt : x < 0 → zW G d M tgt lv st n u μ nF uF Φ) (kf : ¬ x < 0 → zW G d M pc' lv st n u μ nF uF Φ) : zW G d M pc lv (.int x :: st) n u μ nF uF Φ := by
  subst hp
  intro p e R s m args below meth c n0 u0 B h1 h2 H locs ls hR hl hlv
  exact lv_if_lt B.1 B.2.1 (z_dec (zB_ok B) hd) ht (fun hc => kt hc p e R s m args below meth c n0 u0 B h1 h2 H locs ls hR hl hlv) (fun hc => kf hc p e R s m args below meth c n0 u0 B h1 h2 H locs ls hR hl hlv)
theorem z_if_ge {x : Int32} {off : Int} {tgt : Nat} (k : Nat) (hd : (mI M)[k]? = some (pc, .ifCond .ge off, 3)) (hp : pc + 3 = pc') (ht : (pc : Int) + off = (tgt : Int)) (kt : 0 ≤ x → zW G d M tgt lv st n u μ nF uF Φ) (kf : ¬ 0 ≤ x → zW G d M pc' lv st n u μ nF uF Φ) : zW G d M pc lv (.int x :: st) n u μ nF uF Φ := by
  subst hp
  intro p e R s m args below meth c n0 u0 B h1 h2 H locs ls hR hl hlv
  exact lv_if_ge B.1 B.2.1 (z_dec (zB_ok B) hd) ht (fun hc => kt hc p e R s m args below meth c n0 u0 B h1 h2 H locs ls hR hl hlv) (fun hc => kf hc p e R s m args below meth c n0 u0 B h1 h2 H locs ls hR hl hlv)
theorem z_if_gt {x : Int32} {off : Int} {tgt : Nat} (k : Nat) (hd : (mI M)[k]? = some (pc, .ifCond .gt off, 3)) (hp : pc + 3 = pc') (ht : (pc : Int) + off = (tgt : Int)) (kt : 0 < x → zW G d M tgt lv st n u μ nF uF Φ) (kf : ¬ 0 < x → zW G d M pc' lv st n u μ nF uF Φ) : zW G d M pc lv (.int x :: st) n u μ nF uF Φ := by
  subst hp
  intro p e R s m args below meth c n0 u0 B h1 h2 H locs ls hR hl hlv
  exact lv_if_gt B.1 B.2.1 (z_dec (zB_ok B) hd) ht (fun hc => kt hc p e R s m args below meth c n0 u0 B h1 h2 H locs ls hR hl hlv) (fun hc => kf hc p e R s m args below meth c n0 u0 B h1 h2 H locs ls hR hl hlv)
theorem z_if_le {x : Int32} {off : Int} {tgt : Nat} (k : Nat) (hd : (mI M)[k]? = some (pc, .ifCond .le off, 3)) (hp : pc + 3 = pc') (ht : (pc : Int) + off = (tgt : Int)) (kt : x ≤ 0 → zW G d M tgt lv st n u μ nF uF Φ) (kf : ¬ x ≤ 0 → zW G d M pc' lv st n u μ nF uF Φ) : zW G d M pc lv (.int x :: st) n u μ nF uF Φ := by
  subst hp
  intro p e R s m args below meth c n0 u0 B h1 h2 H locs ls hR hl hlv
  exact lv_if_le B.1 B.2.1 (z_dec (zB_ok B) hd) ht (fun hc => kt hc p e R s m args below meth c n0 u0 B h1 h2 H locs ls hR hl hlv) (fun hc => kf hc p e R s m args below meth c n0 u0 B h1 h2 H locs ls hR hl hlv)
theorem z_icmp_eq {x y : Int32} {off : Int} {tgt : Nat} (k : Nat) (hd : (mI M)[k]? = some (pc, .if_icmp .eq off, 3)) (hp : pc + 3 = pc') (ht : (pc : Int) + off = (tgt : Int)) (kt : x = y → zW G d M tgt lv st n u μ nF uF Φ) (kf : ¬ x = y → zW G d M pc' lv st n u μ nF uF Φ) : zW G d M pc lv (.int y :: .int x :: st) n u μ nF uF Φ := by
  subst hp
  intro p e R s m args below meth c n0 u0 B h1 h2 H locs ls hR hl hlv
  exact lv_icmp_eq B.1 B.2.1 (z_dec (zB_ok B) hd) ht (fun hc => kt hc p e R s m args below meth c n0 u0 B h1 h2 H locs ls hR hl hlv) (fun hc => kf hc p e R s m args below meth c n0 u0 B h1 h2 H locs ls hR hl hlv)
theorem z_icmp_ne {x y : Int32} {off : Int} {tgt : Nat} (k : Nat) (hd : (mI M)[k]? = some (pc, .if_icmp .ne off, 3)) (hp : pc + 3 = pc') (ht : (pc : Int) + off = (tgt : Int)) (kt : ¬ x = y → zW G d M tgt lv st n u μ nF uF Φ) (kf : x = y → zW G d M pc' lv st n u μ nF uF Φ) : zW G d M pc lv (.int y :: .int x :: st) n u μ nF uF Φ := by
  subst hp
  intro p e R s m args below meth c n0 u0 B h1 h2 H locs ls hR hl hlv
  exact lv_icmp_ne B.1 B.2.1 (z_dec (zB_ok B) hd) ht (fun hc => kt hc p e R s m args below meth c n0 u0 B h1 h2 H locs ls hR hl hlv) (fun hc => kf hc p e R s m args below meth c n0 u0 B h1 h2 H locs ls hR hl hlv)
theorem z_icmp_lt {x y : Int32} {off : Int} {tgt : Nat} (k : Nat) (hd : (mI M)[k]? = some (pc, .if_icmp .lt off, 3)) (hp : pc + 3 = pc') (ht : (pc : Int) + off = (tgt : Int)) (kt : x < y → zW G d M tgt lv st n u μ nF uF Φ) (kf : ¬ x < y → zW G d M pc' lv st n u μ nF uF Φ) : zW G d M pc lv (.int y :: .int x :: st) n u μ nF uF Φ := by
  subst hp
  intro p e R s m args below meth c n0 u0 B h1 h2 H locs ls hR hl hlv
  exact lv_icmp_lt B.1 B.2.1 (z_dec (zB_ok B) hd) ht (fun hc => kt hc p e R s m args below meth c n0 u0 B h1 h2 H locs ls hR hl hlv) (fun hc => kf hc p e R s m args below meth c n0 u0 B h1 h2 H locs ls hR hl hlv)
theorem z_icmp_ge {x y : Int32} {off : Int} {tgt : Nat} (k : Nat) (hd : (mI M)[k]? = some (pc, .if_icmp .ge off, 3)) (hp : pc + 3 = pc') (ht : (pc : Int) + off = (tgt : Int)) (kt : y ≤ x → zW G d M tgt lv st n u μ nF uF Φ) (kf : ¬ y ≤ x → zW G d M pc' lv st n u μ nF uF Φ) : zW G d M pc lv (.int y :: .int x :: st) n u μ nF uF Φ := by
  subst hp
  intro p e R s m args below meth c n0 u0 B h1 h2 H locs ls hR hl hlv
  exact lv_icmp_ge B.1 B.2.1 (z_dec (zB_ok B) hd) ht (fun hc => kt hc p e R s m args below meth c n0 u0 B h1 h2 H locs ls hR hl hlv) (fun hc => kf hc p e R s m args below meth c n0 u0 B h1 h2 H locs ls hR hl hlv)
theorem z_icmp_gt {x y : Int32} {off : Int} {tgt : Nat} (k : Nat) (hd : (mI M)[k]? = some (pc, .if_icmp .gt off, 3)) (hp : pc + 3 = pc') (ht : (pc : Int) + off = (tgt : Int)) (kt : y < x → zW G d M tgt lv st n u μ nF uF Φ) (kf : ¬ y < x → zW G d M pc' lv st n u μ nF uF Φ) : zW G d M pc lv (.int y :: .int x :: st) n u μ nF uF Φ := by
  subst hp
  intro p e R s m args below meth c n0 u0 B h1 h2 H locs ls hR hl hlv
  exact lv_icmp_gt B.1 B.2.1 (z_dec (zB_ok B) hd) ht (fun hc => kt hc p e R s m args below meth c n0 u0 B h1 h2 H locs ls hR hl hlv) (fun hc => kf hc p e R s m args below meth c n0 u0 B h1 h2 H locs ls hR hl hlv)
theorem z_icmp_le {x y : Int32} {off : Int} {tgt : Nat} (k : Nat) (hd : (mI M)[k]? = some (pc, .if_icmp .le off, 3)) (hp : pc + 3 = pc') (ht : (pc : Int) + off = (tgt : Int)) (kt : x ≤ y → zW G d M tgt lv st n u μ nF uF Φ) (kf : ¬ x ≤ y → zW G d M pc' lv st n u μ nF uF Φ) : zW G d M pc lv (.int y :: .int x :: st) n u μ nF uF Φ := by
  subst hp
  intro p e R s m args below meth c n0 u0 B h1 h2 H locs ls hR hl hlv
  exact lv_icmp_le B.1 B.2.1 (z_dec (zB_ok B) hd) ht (fun hc => kt hc p e R s m args below meth c n0 u0 B h1 h2 H locs ls hR hl hlv) (fun hc => kf hc p e R s m args below meth c n0 u0 B h1 h2 H locs ls hR hl hlv)
theorem z_if_eq_t {x : Int32} {off : Int} {tgt : Nat} (k : Nat) (hd : (mI M)[k]? = some (pc, .ifCond .eq off, 3)) (ht : (pc : Int) + off = (tgt : Int)) (hc : x = 0) (kt : zW G d M tgt lv st n u μ nF uF Φ) : zW G d M pc lv (.int x :: st) n u μ nF uF Φ :=
  z_if_eq k hd rfl ht (fun _ => kt) (fun h => absurd hc (by exact h))
theorem z_if_eq_f {x : Int32} {off : Int} {tgt : Nat} (k : Nat) (hd : (mI M)[k]? = some (pc, .ifCond .eq off, 3)) (hp : pc + 3 = pc') (ht : (pc : Int) + off = (tgt : Int)) (hc : ¬ x = 0) (kf : zW G d M pc' lv st n u μ nF uF Φ) : zW G d M pc lv (.int x :: st) n u μ nF uF Φ :=
  z_if_eq k hd hp ht (fun h => absurd h (by exact hc)) (fun _ => kf)
theorem z_icmp_eq_t {x y : Int32} {off : Int} {tgt : Nat} (k : Nat) (hd : (mI M)[k]? = some (pc, .if_icmp .eq off, 3)) (ht : (pc : Int) + off = (tgt : Int)) (hc : x = y) (kt : zW G d M tgt lv st n u μ nF uF Φ) : zW G d M pc lv (.int y :: .int x :: st) n u μ nF uF Φ :=
  z_icmp_eq k hd rfl ht (fun _ => kt) (fun h => absurd hc (by exact h))
theorem z_icmp_eq_f {x y : Int32} {off : Int} {tgt : Nat} (k : Nat) (hd : (mI M)[k]? = some (pc, .if_icmp .eq off, 3)) (hp : pc + 3 = pc') (ht : (pc : Int) + off = (tgt : Int)) (hc : ¬ x = y) (kf : zW G d M pc' lv st n u μ nF uF Φ) : zW G d M pc lv (.int y :: .int x :: st) n u μ nF uF Φ :=
  z_icmp_eq k hd hp ht (fun h => absurd h (by exact hc)) (fun _ => kf)
theorem z_if_ne_t {x : Int32} {off : Int} {tgt : Nat} (k : Nat) (hd : (mI M)[k]? = some (pc, .ifCond .ne off, 3)) (ht : (pc : Int) + off = (tgt : Int)) (hc : ¬ x = 0) (kt : zW G d M tgt lv st n u μ nF uF Φ) : zW G d M pc lv (.int x :: st) n u μ nF uF Φ :=
  z_if_ne k hd rfl ht (fun _ => kt) (fun h => absurd hc (by exact fun z => z h))
theorem z_if_ne_f {x : Int32} {off : Int} {tgt : Nat} (k : Nat) (hd : (mI M)[k]? = some (pc, .ifCond .ne off, 3)) (hp : pc + 3 = pc') (ht : (pc : Int) + off = (tgt : Int)) (hc : x = 0) (kf : zW G d M pc' lv st n u μ nF uF Φ) : zW G d M pc lv (.int x :: st) n u μ nF uF Φ :=
  z_if_ne k hd hp ht (fun h => absurd h (by exact fun z => z hc)) (fun _ => kf)
theorem z_icmp_ne_t {x y : Int32} {off : Int} {tgt : Nat} (k : Nat) (hd : (mI M)[k]? = some (pc, .if_icmp .ne off, 3)) (ht : (pc : Int) + off = (tgt : Int)) (hc : ¬ x = y) (kt : zW G d M tgt lv st n u μ nF uF Φ) : zW G d M pc lv (.int y :: .int x :: st) n u μ nF uF Φ :=
  z_icmp_ne k hd rfl ht (fun _ => kt) (fun h => absurd hc (by exact fun z => z h))
theorem z_icmp_ne_f {x y : Int32} {off : Int} {tgt : Nat} (k : Nat) (hd : (mI M)[k]? = some (pc, .if_icmp .ne off, 3)) (hp : pc + 3 = pc') (ht : (pc : Int) + off = (tgt : Int)) (hc : x = y) (kf : zW G d M pc' lv st n u μ nF uF Φ) : zW G d M pc lv (.int y :: .int x :: st) n u μ nF uF Φ :=
  z_icmp_ne k hd hp ht (fun h => absurd h (by exact fun z => z hc)) (fun _ => kf)
theorem z_if_lt_t {x : Int32} {off : Int} {tgt : Nat} (k : Nat) (hd : (mI M)[k]? = some (pc, .ifCond .lt off, 3)) (ht : (pc : Int) + off = (tgt : Int)) (hc : x < 0) (kt : zW G d M tgt lv st n u μ nF uF Φ) : zW G d M pc lv (.int x :: st) n u μ nF uF Φ :=
  z_if_lt k hd rfl ht (fun _ => kt) (fun h => absurd hc (by exact h))
theorem z_if_lt_f {x : Int32} {off : Int} {tgt : Nat} (k : Nat) (hd : (mI M)[k]? = some (pc, .ifCond .lt off, 3)) (hp : pc + 3 = pc') (ht : (pc : Int) + off = (tgt : Int)) (hc : ¬ x < 0) (kf : zW G d M pc' lv st n u μ nF uF Φ) : zW G d M pc lv (.int x :: st) n u μ nF uF Φ :=
  z_if_lt k hd hp ht (fun h => absurd h (by exact hc)) (fun _ => kf)
theorem z_icmp_lt_t {x y : Int32} {off : Int} {tgt : Nat} (k : Nat) (hd : (mI M)[k]? = some (pc, .if_icmp .lt off, 3)) (ht : (pc : Int) + off = (tgt : Int)) (hc : x < y) (kt : zW G d M tgt lv st n u μ nF uF Φ) : zW G d M pc lv (.int y :: .int x :: st) n u μ nF uF Φ :=
  z_icmp_lt k hd rfl ht (fun _ => kt) (fun h => absurd hc (by exact h))
theorem z_icmp_lt_f {x y : Int32} {off : Int} {tgt : Nat} (k : Nat) (hd : (mI M)[k]? = some (pc, .if_icmp .lt off, 3)) (hp : pc + 3 = pc') (ht : (pc : Int) + off = (tgt : Int)) (hc : ¬ x < y) (kf : zW G d M pc' lv st n u μ nF uF Φ) : zW G d M pc lv (.int y :: .int x :: st) n u μ nF uF Φ :=
  z_icmp_lt k hd hp ht (fun h => absurd h (by exact hc)) (fun _ => kf)
theorem z_if_ge_t {x : Int32} {off : Int} {tgt : Nat} (k : Nat) (hd : (mI M)[k]? = some (pc, .ifCond .ge off, 3)) (ht : (pc : Int) + off = (tgt : Int)) (hc : 0 ≤ x) (kt : zW G d M tgt lv st n u μ nF uF Φ) : zW G d M pc lv (.int x :: st) n u μ nF uF Φ :=
  z_if_ge k hd rfl ht (fun _ => kt) (fun h => absurd hc (by exact h))
theorem z_if_ge_f {x : Int32} {off : Int} {tgt : Nat} (k : Nat) (hd : (mI M)[k]? = some (pc, .ifCond .ge off, 3)) (hp : pc + 3 = pc') (ht : (pc : Int) + off = (tgt : Int)) (hc : ¬ 0 ≤ x) (kf : zW G d M pc' lv st n u μ nF uF Φ) : zW G d M pc lv (.int x :: st) n u μ nF uF Φ :=
  z_if_ge k hd hp ht (fun h => absurd h (by exact hc)) (fun _ => kf)
theorem z_icmp_ge_t {x y : Int32} {off : Int} {tgt : Nat} (k : Nat) (hd : (mI M)[k]? = some (pc, .if_icmp .ge off, 3)) (ht : (pc : Int) + off = (tgt : Int)) (hc : y ≤ x) (kt : zW G d M tgt lv st n u μ nF uF Φ) : zW G d M pc lv (.int y :: .int x :: st) n u μ nF uF Φ :=
  z_icmp_ge k hd rfl ht (fun _ => kt) (fun h => absurd hc (by exact h))
theorem z_icmp_ge_f {x y : Int32} {off : Int} {tgt : Nat} (k : Nat) (hd : (mI M)[k]? = some (pc, .if_icmp .ge off, 3)) (hp : pc + 3 = pc') (ht : (pc : Int) + off = (tgt : Int)) (hc : ¬ y ≤ x) (kf : zW G d M pc' lv st n u μ nF uF Φ) : zW G d M pc lv (.int y :: .int x :: st) n u μ nF uF Φ :=
  z_icmp_ge k hd hp ht (fun h => absurd h (by exact hc)) (fun _ => kf)
theorem z_if_gt_t {x : Int32} {off : Int} {tgt : Nat} (k : Nat) (hd : (mI M)[k]? = some (pc, .ifCond .gt off, 3)) (ht : (pc : Int) + off = (tgt : Int)) (hc : 0 < x) (kt : zW G d M tgt lv st n u μ nF uF Φ) : zW G d M pc lv (.int x :: st) n u μ nF uF Φ :=
  z_if_gt k hd rfl ht (fun _ => kt) (fun h => absurd hc (by exact h))
theorem z_if_gt_f {x : Int32} {off : Int} {tgt : Nat} (k : Nat) (hd : (mI M)[k]? = some (pc, .ifCond .gt off, 3)) (hp : pc + 3 = pc') (ht : (pc : Int) + off = (tgt : Int)) (hc : ¬ 0 < x) (kf : zW G d M pc' lv st n u μ nF uF Φ) : zW G d M pc lv (.int x :: st) n u μ nF uF Φ :=
  z_if_gt k hd hp ht (fun h => absurd h (by exact hc)) (fun _ => kf)
theorem z_icmp_gt_t {x y : Int32} {off : Int} {tgt : Nat} (k : Nat) (hd : (mI M)[k]? = some (pc, .if_icmp .gt off, 3)) (ht : (pc : Int) + off = (tgt : Int)) (hc : y < x) (kt : zW G d M tgt lv st n u μ nF uF Φ) : zW G d M pc lv (.int y :: .int x :: st) n u μ nF uF Φ :=
  z_icmp_gt k hd rfl ht (fun _ => kt) (fun h => absurd hc (by exact h))
theorem z_icmp_gt_f {x y : Int32} {off : Int} {tgt : Nat} (k : Nat) (hd : (mI M)[k]? = some (pc, .if_icmp .gt off, 3)) (hp : pc + 3 = pc') (ht : (pc : Int) + off = (tgt : Int)) (hc : ¬ y < x) (kf : zW G d M pc' lv st n u μ nF uF Φ) : zW G d M pc lv (.int y :: .int x :: st) n u μ nF uF Φ :=
  z_icmp_gt k hd hp ht (fun h => absurd h (by exact hc)) (fun _ => kf)
theorem z_if_le_t {x : Int32} {off : Int} {tgt : Nat} (k : Nat) (hd : (mI M)[k]? = some (pc, .ifCond .le off, 3)) (ht : (pc : Int) + off = (tgt : Int)) (hc : x ≤ 0) (kt : zW G d M tgt lv st n u μ nF uF Φ) : zW G d M pc lv (.int x :: st) n u μ nF uF Φ :=
  z_if_le k hd rfl ht (fun _ => kt) (fun h => absurd hc (by exact h))
theorem z_if_le_f {x : Int32} {off : Int} {tgt : Nat} (k : Nat) (hd : (mI M)[k]? = some (pc, .ifCond .le off, 3)) (hp : pc + 3 = pc') (ht : (pc : Int) + off = (tgt : Int)) (hc : ¬ x ≤ 0) (kf : zW G d M pc' lv st n u μ nF uF Φ) : zW G d M pc lv (.int x :: st) n u μ nF uF Φ :=
  z_if_le k hd hp ht (fun h => absurd h (by exact hc)) (fun _ => kf)
theorem z_icmp_le_t {x y : Int32} {off : Int} {tgt : Nat} (k : Nat) (hd : (mI M)[k]? = some (pc, .if_icmp .le off, 3)) (ht : (pc : Int) + off = (tgt : Int)) (hc : x ≤ y) (kt : zW G d M tgt lv st n u μ nF uF Φ) : zW G d M pc lv (.int y :: .int x :: st) n u μ nF uF Φ :=
  z_icmp_le k hd rfl ht (fun _ => kt) (fun h => absurd hc (by exact h))
theorem z_icmp_le_f {x y : Int32} {off : Int} {tgt : Nat} (k : Nat) (hd : (mI M)[k]? = some (pc, .if_icmp .le off, 3)) (hp : pc + 3 = pc') (ht : (pc : Int) + off = (tgt : Int)) (hc : ¬ x ≤ y) (kf : zW G d M pc' lv st n u μ nF uF Φ) : zW G d M pc lv (.int y :: .int x :: st) n u μ nF uF Φ :=
  z_icmp_le k hd hp ht (fun h => absurd h (by exact hc)) (fun _ => kf)
theorem z_goto {off : Int} {tgt : Nat} (k : Nat) (hd : (mI M)[k]? = some (pc, .goto off, 3)) (ht : (pc : Int) + off = (tgt : Int)) (kk : zW G d M tgt lv st n u μ nF uF Φ) : zW G d M pc lv st n u μ nF uF Φ := by
  intro p e R s m args below meth c n0 u0 B h1 h2 H locs ls hR hl hlv
  exact lv_goto B.1 B.2.1 (z_dec (zB_ok B) hd) ht (kk p e R s m args below meth c n0 u0 B h1 h2 H locs ls hR hl hlv)
theorem z_ifnullR {x : Nat} {off : Int} (k : Nat) (hd : (mI M)[k]? = some (pc, .ifnull off, 3)) (hp : pc + 3 = pc') (kk : zW G d M pc' lv st n u μ nF uF Φ) : zW G d M pc lv (.ref x :: st) n u μ nF uF Φ := by
  subst hp
  intro p e R s m args below meth c n0 u0 B h1 h2 H locs ls hR hl hlv
  exact lv_ifnull B.1 B.2.1 (z_dec (zB_ok B) hd) (kk p e R s m args below meth c n0 u0 B h1 h2 H locs ls hR hl hlv)
theorem z_ifnullN  {off : Int} {tgt : Nat} (k : Nat) (hd : (mI M)[k]? = some (pc, .ifnull off, 3)) (ht : (pc : Int) + off = (tgt : Int)) (kk : zW G d M tgt lv st n u μ nF uF Φ) : zW G d M pc lv (.null :: st) n u μ nF uF Φ := by
  intro p e R s m args below meth c n0 u0 B h1 h2 H locs ls hR hl hlv
  exact lv_ifnullN B.1 B.2.1 (z_dec (zB_ok B) hd) ht (kk p e R s m args below meth c n0 u0 B h1 h2 H locs ls hR hl hlv)
theorem z_ifnonnullR {x : Nat} {off : Int} {tgt : Nat} (k : Nat) (hd : (mI M)[k]? = some (pc, .ifnonnull off, 3)) (ht : (pc : Int) + off = (tgt : Int)) (kk : zW G d M tgt lv st n u μ nF uF Φ) : zW G d M pc lv (.ref x :: st) n u μ nF uF Φ := by
  intro p e R s m args below meth c n0 u0 B h1 h2 H locs ls hR hl hlv
  exact lv_ifnonnull B.1 B.2.1 (z_dec (zB_ok B) hd) ht (kk p e R s m args below meth c n0 u0 B h1 h2 H locs ls hR hl hlv)
theorem z_ifnonnullN  {off : Int} (k : Nat) (hd : (mI M)[k]? = some (pc, .ifnonnull off, 3)) (hp : pc + 3 = pc') (kk : zW G d M pc' lv st n u μ nF uF Φ) : zW G d M pc lv (.null :: st) n u μ nF uF Φ := by
  subst hp
  intro p e R s m args below meth c n0 u0 B h1 h2 H locs ls hR hl hlv
  exact lv_ifnonnullN B.1 B.2.1 (z_dec (zB_ok B) hd) (kk p e R s m args below meth c n0 u0 B h1 h2 H locs ls hR hl hlv)
theorem z_tableIn {x : Int32} {dflt lo hi : Int} {offs : Array Int} {len : Nat} {off : Int} {tgt : Nat} (k : Nat) (hd : (mI M)[k]? = some (pc, .tableswitch dflt lo hi offs, len)) (g1 : ¬ x.toInt < lo) (g2 : ¬ hi < x.toInt) (ho : offs[(x.toInt - lo).toNat]? = some off) (ht : (pc : Int) + off = (tgt : Int)) (kk : zW G d M tgt lv st n u μ nF uF Φ) : zW G d M pc lv (.int x :: st) n u μ nF uF Φ := by
  intro p e R s m args below meth c n0 u0 B h1 h2 H locs ls hR hl hlv
  exact lv_tableIn B.1 B.2.1 (z_dec (zB_ok B) hd) g1 g2 ho ht (kk p e R s m args below meth c n0 u0 B h1 h2 H locs ls hR hl hlv)
theorem z_tableOut {x : Int32} {dflt lo hi : Int} {offs : Array Int} {len tgt : Nat} (k : Nat) (hd : (mI M)[k]? = some (pc, .tableswitch dflt lo hi offs, len)) (g1 : x.toInt < lo ∨ hi < x.toInt) (ht : (pc : Int) + dflt = (tgt : Int)) (kk : zW G d M tgt lv st n u μ nF uF Φ) : zW G d M pc lv (.int x :: st) n u μ nF uF Φ := by
  intro p e R s m args below meth c n0 u0 B h1 h2 H locs ls hR hl hlv
  exact lv_tableOut B.1 B.2.1 (z_dec (zB_ok B) hd) g1 ht (kk p e R s m args below meth c n0 u0 B h1 h2 H locs ls hR hl hlv)
theorem z_lookup {x : Int32} {dflt : Int} {ps : Array (Int × Int)} {len : Nat} {off : Int} {tgt : Nat} (k : Nat) (hd : (mI M)[k]? = some (pc, .lookupswitch dflt ps, len)) (hp : (ps.toList.zip (ps.toList.drop 1)).all (fun (a, next) => a.1 < next.1) = true) (ho : Op.lookupswitch.offset ps.toList dflt x.toInt = off) (ht : (pc : Int) + off = (tgt : Int)) (kk : zW G d M tgt lv st n u μ nF uF Φ) : zW G d M pc lv (.int x :: st) n u μ nF uF Φ := by
  intro p e R s m args below meth c n0 u0 B h1 h2 H locs ls hR hl hlv
  exact lv_lookup B.1 B.2.1 (z_dec (zB_ok B) hd) hp ho ht (kk p e R s m args below meth c n0 u0 B h1 h2 H locs ls hR hl hlv)
theorem z_ireturn {x : Int32} {ty : FieldType} (k : Nat) (hd : (mI M)[k]? = some (pc, .ireturn, 1)) (hr : mR M = some ty) (hn : narrow ty (.int x) = .int x) (h2 : n = nF) (h3 : u = uF) (h4 : Φ (some (.int x)) μ) : zW G d M pc lv [.int x] n u μ nF uF Φ := by
  subst h2; subst h3
  intro p e R s m args below meth c n0 u0 B g1 g2 H locs ls hR hl hlv
  exact W.zret (ty := ty) B.1 B.2.1 (B.2.2.1.trans hr) hn (fun t ht hW => ⟨some (.int x), _, rfl, h4, by rw [ht]; exact hR⟩) hl (z_dec (zB_ok B) hd) (hlocks := B.2.2.2.2.2.2.2.1)
theorem z_return (k : Nat) (hd : (mI M)[k]? = some (pc, .return_, 1)) (hr : mR M = none) (h2 : n = nF) (h3 : u = uF) (h4 : Φ none μ) : zW G d M pc lv [] n u μ nF uF Φ := by
  subst h2; subst h3
  intro p e R s m args below meth c n0 u0 B g1 g2 H locs ls hR hl hlv
  exact W.vret B.1 B.2.1 (B.2.2.1.trans hr) (fun t ht hW => ⟨none, _, rfl, h4, by rw [ht]; exact hR⟩) hl (z_dec (zB_ok B) hd) (hlocks := B.2.2.2.2.2.2.2.1)
theorem z_areturn {a : Nat} {C : String} (k : Nat) (hd : (mI M)[k]? = some (pc, .areturn, 1)) (hr : mR M = some (.object C)) (h2 : n = nF) (h3 : u = uF) (h4 : Φ (some (.ref a)) μ) : zW G d M pc lv [.ref a] n u μ nF uF Φ := by
  subst h2; subst h3
  intro p e R s m args below meth c n0 u0 B g1 g2 H locs ls hR hl hlv
  exact W.aret (v := .ref (za G a)) B.1 B.2.1 (B.2.2.1.trans hr) (Or.inl ⟨C, rfl⟩) (Or.inr ⟨_, rfl⟩) (fun t ht hW => ⟨some (.ref a), _, rfl, h4, by rw [ht]; exact hR⟩) hl (z_dec (zB_ok B) hd) (hlocks := B.2.2.2.2.2.2.2.1)
theorem z_sw {x : Int32} (v : Nat) (kt : x = nI v → zW G d M pc lv (.int (nI v) :: st) n u μ nF uF Φ) (kf : ¬ x = nI v → zW G d M pc lv (.int x :: st) n u μ nF uF Φ) : zW G d M pc lv (.int x :: st) n u μ nF uF Φ := by
  by_cases h : x = nI v
  · rw [h]; exact kt h
  · exact kf h
theorem z_ne {x : Int32} {v : Nat} (hv : v < 2 ^ 31) (h : ¬ x = nI v) : x.toInt ≠ (v : Int) := by
  intro e
  apply h
  rw [← nI_toInt hv] at e
  exact Int32.toInt_inj.mp e
end ZR
