section ZC
variable {G : zG} {d : Nat} {M : zM} {pc pc' : Nat} {lv st : List Value} {n u : Nat} {μ : Nat → va_E} {nF uF : Nat} {Φ : zP}
/-! making -/
def zN (own : String) (idx ci N : Nat) (fs : List Value) : Prop := ∃ (C : String) (T : u_T) (ty : Nat → FieldType), zCl[ci]? = some (C, T, N) ∧ (∀ w ∈ u_ws C T N, w ∈ zT) ∧ (∀ k, k < N → parseFieldDescriptor (T k).2.2.1 = some (ty k)) ∧ Cond.classLink own idx C ∈ zT ∧ Cond.instantiable C N ∈ zT ∧ Cond.initialized C ∈ zT ∧ (∀ j, j < N → defaultValue (ty j) = vp_V fs j) ∧ fs.all (fun v => v == .int 0 || v == .null) = true
theorem z_def {fs : List Value} (h : fs.all (fun v => v == .int 0 || v == .null) = true) : fs.map (zv G) = fs := by
  have h1 := List.all_eq_true.mp h
  have e : fs.map (zv G) = fs.map id := List.map_congr_left (fun v hv => by
    have := h1 v hv
    simp only [Bool.or_eq_true, beq_iff_eq] at this
    rcases this with rfl | rfl <;> rfl)
  rw [e, List.map_id]
theorem z_new {ci N idx : Nat} {fs : List Value} (k : Nat) (hd : (mI M)[k]? = some (pc, .new idx, 3)) (hp : pc + 3 = pc') (hN : zN (mO M) idx ci N fs) (hn : n + 1 ≤ nF) (hu : u + N ≤ uF) (kk : zW G d M pc' lv (.ref n :: st) (n + 1) (u + N) (zu μ n (.inr (ci, fs))) nF uF Φ) : zW G d M pc lv st n u μ nF uF Φ := by
  subst hp
  obtain ⟨C, T, ty, f1, f2, f3, f4, f5, f6, f7, f8⟩ := hN
  intro p e R s m args below meth c n0 u0 B h1 h2 H locs ls hR hl hlv
  have hB := zB_n B
  refine va_new B.1 B.2.1 (zB_T B) f2 ty f3 (zB_own B) (zB_T B _ f4) (zB_T B _ f5) (zB_T B _ f6) (zB_K B) hR.2.2.1 zws_D (z_S B h1 hR hl) (fun q hq => by have := zB_sz B; show zb G ≤ q; omega) f1 f7 (by omega) (by omega) (z_dec (zB_ok B) hd) (fun q H1 hP1 hD1 hS1 => ?_)
  have e1 : (Sum.inr (ci, fs) : va_E) = ze G (.inr (ci, fs)) := by simp only [ze, z_def f8]
  rw [e1] at hP1 hD1
  refine zW_size (fun hsz => ?_)
  obtain ⟨hq, hR1⟩ := z_newEnd B h1 hR hP1 hD1 hS1 hsz
  subst hq
  have k1 := kk p e R s m args below meth c n0 u0 B (by omega) (by omega) H1 locs ls hR1 hl hlv
  rw [show n + 1 - n0 = n - n0 + 1 by omega, show u + N - u0 = u - u0 + N by omega] at k1
  exact k1
theorem z_newa {at_ : ArrayType} {kd L : Nat} {ty : FieldType} {a0 : vp_A} (k : Nat) (hd : (mI M)[k]? = some (pc, .newarray at_, 2)) (hp : pc + 2 = pc') (hty : newarray.typeOf at_ = ty) (hno : ∀ C, ty ≠ .object C) (hk : (ztys G)[kd]? = some (zA G kd, ty)) (hw : Cond.arrayClass ty ∈ zT) (ha : ∀ cA : ClassId, vp_cell cA a0 = arrV cA L (fun _ => defaultValue ty)) (hz : ze G (.inl (kd, a0)) = .inl (zA G kd, a0)) (hL : L ≤ 65536) (hn : n + 1 ≤ nF) (hu : u + L ≤ uF)
    (kk : zW G d M pc' lv (.ref n :: st) (n + 1) (u + L) (zu μ n (.inl (kd, a0))) nF uF Φ) : zW G d M pc lv (.int (nI L) :: st) n u μ nF uF Φ := by
  subst hp
  intro p e R s m args below meth c n0 u0 B h1 h2 H locs ls hR hl hlv
  have hB := zB_n B
  have hcb : componentBytes ty ≤ 8 := by cases ty <;> simp [componentBytes]
  refine va_newa B.1 B.2.1 (by rw [hty]; exact zB_T B _ hw) hty (zB_K B) hR.2.2.1 zws_D (z_S B h1 hR hl) (fun q hq => by have := zB_sz B; show zb G ≤ q; omega) ha (nI_pos (by omega)) (nI_clamp (by omega)) (by
    have := Nat.mul_le_mul hL hcb
    omega) (by omega) (by omega) (z_dec (zB_ok B) hd) (fun q cA H1 hK1 hP1 hD1 hS1 => ?_)
  have hcA : cA = zA G kd := by
    have x1 := (hK1.2 (ztys G).length (cA, ty) (by rw [List.getElem?_append_right (Nat.le_refl _), Nat.sub_self]; rfl)).2
    have x2 := ((zB_K B).2 kd _ hk).2
    cases ty <;> first | exact absurd rfl (hno _) | exact Option.some.inj (x1.symm.trans x2)
  subst hcA
  rw [← hz] at hP1 hD1
  refine zW_size (fun hsz => ?_)
  obtain ⟨hq, hR1⟩ := z_newEnd B h1 hR hP1 hD1 hS1 hsz
  subst hq
  have k1 := kk p e R s m args below meth c n0 u0 B (by omega) (by omega) H1 locs ls hR1 hl hlv
  rw [show n + 1 - n0 = n - n0 + 1 by omega, show u + L - u0 = u - u0 + L by omega] at k1
  exact k1
theorem z_newq {idx L : Nat} (k : Nat) (hd : (mI M)[k]? = some (pc, .anewarray idx, 3)) (hp : pc + 3 = pc') (hw : Cond.classLink (mO M) idx "WindBrides$Course" ∈ zT) (hL : L ≤ 65536) (hn : n + 1 ≤ nF) (hu : u + L ≤ uF)
    (kk : zW G d M pc' lv (.ref n :: st) (n + 1) (u + L) (zu μ n (.inl (3, L, .inr (.inr (.inr (.inr (fun _ => none))))))) nF uF Φ) : zW G d M pc lv (.int (nI L) :: st) n u μ nF uF Φ := by
  subst hp
  intro p e R s m args below meth c n0 u0 B h1 h2 H locs ls hR hl hlv
  have hB := zB_n B
  refine va_newq B.1 B.2.1 (zB_own B) (zB_T B _ hw) (zB_O B).2.2.1 (zB_K B) hR.2.2.1 zws_D (z_S B h1 hR hl) (fun q hq => by have := zB_sz B; show zb G ≤ q; omega) (nI_pos (by omega)) (nI_clamp (by omega)) (by omega) (by omega) (by omega) (z_dec (zB_ok B) hd) (fun q cA H1 hK1 hP1 hD1 hS1 => ?_)
  have hcA : cA = zA G 3 := by
    obtain ⟨kA, comp, -, -, -, x1⟩ := (hK1.2 (ztys G).length (cA, .object "WindBrides$Course") (by rw [List.getElem?_append_right (Nat.le_refl _), Nat.sub_self]; rfl)).2
    obtain ⟨kA2, comp2, -, -, -, x2⟩ := ((zB_K B).2 3 (zA G 3, .object "WindBrides$Course") rfl).2
    exact Option.some.inj (x1.symm.trans x2)
  subst hcA
  rw [show (Sum.inl (zA G 3, L, Sum.inr (Sum.inr (Sum.inr (Sum.inr (fun _ => none))))) : va_E) = ze G (.inl (3, L, .inr (.inr (.inr (.inr (fun _ => none)))))) from rfl] at hP1 hD1
  refine zW_size (fun hsz => ?_)
  obtain ⟨hq, hR1⟩ := z_newEnd B h1 hR hP1 hD1 hS1 hsz
  subst hq
  have k1 := kk p e R s m args below meth c n0 u0 B (by omega) (by omega) H1 locs ls hR1 hl hlv
  rw [show n + 1 - n0 = n - n0 + 1 by omega, show u + L - u0 = u - u0 + L by omega] at k1
  exact k1
theorem z_copy {idx a b sp dp ln N0 N1 : Nat} {f g : Nat → Int32} (k : Nat) (hd : (mI M)[k]? = some (pc, .invokestatic idx, 3)) (hp : pc + 3 = pc') (hdp : 1 ≤ d) (hw : Cond.methodLink (mO M) idx arraycopyName ∈ zT) (hw2 : Cond.native arraycopyName ∈ zT) (hw3 : Cond.static arraycopyName ∈ zT) (hw4 : Cond.initialized "java/lang/System" ∈ zT)
    (hm : μ a = .inl (0, N0, .inl f)) (hm2 : μ b = .inl (0, N1, .inl g)) (hN0 : N0 < 2 ^ 31) (hN1 : N1 < 2 ^ 31) (h4 : sp + ln ≤ N0) (h5 : dp + ln ≤ N1) (hrs : (st.map fun v => v.category).sum ≤ 8)
    (kk : zW G d M pc' lv st n u (zu μ b (.inl (0, N1, .inl (va_cpy f g sp dp ln)))) nF uF Φ) : zW G d M pc lv (.int (nI ln) :: .int (nI dp) :: .ref b :: .int (nI sp) :: .ref a :: st) n u μ nF uF Φ := by
  subst hp
  intro p e R s m args below meth c n0 u0 B h1 h2 H locs ls hR hl hlv
  have hB := zB_n B
  obtain ⟨g1, g2⟩ := zR_in hR hm (by show (0 : Nat) ≠ 7; decide)
  obtain ⟨g3, g4⟩ := zR_in hR hm2 (by show (0 : Nat) ≠ 7; decide)
  have he := zws_at (G := G) (n := n) (μ := μ) g1 g2
  have he2 := zws_at (G := G) (n := n) (μ := μ) g3 g4
  rw [hm] at he
  rw [hm2] at he2
  have hcs : ((st.map (zv G)).map fun v => v.category) = st.map fun v => v.category := by rw [List.map_map]; exact List.map_congr_left (fun v _ => zv_cat v)
  have hnf : nativeFrameWords "java/lang/System" "arraycopy" 5 = 7 := by decide
  have hlo : ((st.map (zv G)).map fun v => v.category).sum + (nativeFrameWords "java/lang/System" "arraycopy" 5 + 11) ≤ R.locals := by rw [hcs, hnf]; omega
  have c1 : (nI sp).toNatClampNeg = sp := nI_clamp (by omega)
  have c2 : (nI dp).toNatClampNeg = dp := nI_clamp (by omega)
  have c3 : (nI ln).toNatClampNeg = ln := nI_clamp (by omega)
  refine va_copyi (sp := nI sp) (dp := nI dp) (n := nI ln) B.1 B.2.1 (by rw [B.2.2.2.1]; exact hlv.1.symm) (zB_own B) (zB_T B _ hw) (zB_T B _ hw2) (zB_T B _ hw3) (zB_T B _ hw4) (zB_K B) hR.2.2.1 zws_D (z_S B h1 hR hl) (a - 4) (b - 4) 0 0 (ty := .int) he he2 rfl rfl rfl (nI_pos (by omega)) (nI_pos (by omega)) (nI_pos (by omega)) (by rw [c1, c3]; exact h4) (by rw [c2, c3]; exact h5) (fun _ _ => rfl) (by omega) hlo (z_dec (zB_ok B) hd) (fun H1 locs1 hP1 hD1 hS1 => ?_)
  rw [c1, c2, c3] at hP1
  rw [show (Sum.inl (zA G 0, N1, Sum.inl (va_cpy f g sp dp ln)) : va_E) = ze G (.inl (0, N1, .inl (va_cpy f g sp dp ln))) from rfl, zws_set g3 g4] at hP1
  refine zW_size (fun hsz => ?_)
  exact kk p e R s m args below meth c n0 u0 B h1 h2 H1 locs1 ls (z_putEnd B h1 hR g3 g4 hP1 hS1 hsz) hS1.2.2 hlv
/-! calls -/
theorem z_mem {w : Cond} (i : Nat) (h : lw_tbl[i]? = some w) (hg : goodWord w = true) : w ∈ zT := List.mem_filter.mpr ⟨List.mem_of_getElem? h, hg⟩
theorem z_memN {w : Cond} (i : Nat) (h : lw_tbl[i]? = some w) (hg : zisN w = true) : w ∈ zNW := List.mem_filter.mpr ⟨List.mem_of_getElem? h, hg⟩
theorem z_good {M' : zM} (h : Cond.code (mY M') (mC M') (mL M') (mR M') ∈ zT) : GoodIn zT (zwd M') := by
  intro w hw
  rcases List.mem_cons.mp hw with rfl | hw
  · exact ⟨h, Or.inl rfl⟩
  · exact ⟨hw, good_of_word (List.mem_filter.mp hw).2⟩
/-- the callee: its code is a word, it is made, its descriptor has na parameters, its locals are few -/
def kC (M' : zM) (na : Nat) : Prop := Cond.code (mY M') (mC M') (mL M') (mR M') ∈ zT ∧ Cond.initialized (mY M').cls ∈ zT ∧ ((mY M').cls ≠ "java/lang/invoke/MethodHandle" ∧ (mY M').cls ≠ "java/lang/invoke/VarHandle") ∧ (parseMethodDescriptor (mY M').desc).map (fun d => d.parameters.length) = some na ∧ mL M' ≤ 13
theorem kC_par {M' : zM} {na : Nat} (h : kC M' na) : ∀ sig, parseMethodDescriptor (mY M').desc = some sig → na = sig.parameters.length := by
  intro sig hs
  have := h.2.2.2.1
  rw [hs] at this
  exact (Option.some.inj this).symm
theorem z_blind {as : List Value} : FrameBlind (zPc G as n μ) := by
  intro a U g mk h
  obtain ⟨h1, h2, h3⟩ := h
  exact ⟨h1, zO_same (u := U) rfl h2, h3⟩
section B2
variable {p : Program} {e : Env} {R : Room} {s : State} {m : MethodId} {args : Array Value} {below : List Frame} {meth : Method} {c : Code} {n0 u0 : Nat} {H : Heap} {locs : List Loc} {ls : Array Slot}
theorem z_run {d' n' u' : Nat} {st0 : List Value} {Φ' : zP} {a : Array Value} (B : zB G d M p R s m args meth c n0 u0 nF uF) (h1 : n0 ≤ n) (h2 : u0 ≤ u) (hn : n ≤ n') (hu : u ≤ u') (hl : ∀ q ∈ locs, zb G ≤ q.base) (hlv : zlv G ls (mL M) lv)
    (hr : va_Run p (zl G) e R s m args below meth c H locs (n - n0) (u - u0) (n' - n) (u' - u) (F0 m pc ls st0) (st.map (zv G)) (zQc G Φ' n' a) (zQ G)) (kk : ∀ r μ', Φ' r μ' → zW G d M (pc + 3) lv (r.toList ++ st) n' u' μ' nF uF Φ) :
    W p (zl G) e R s m args below meth c H locs (n - n0) (u - u0) (MQ below (zQc G Φ nF) args s (nF - n0) (uF - u0) (zQ G)) (F0 m pc ls st0) := by
  intro T hT X
  obtain ⟨v, st₀, t, T', L, e0, X', hL, e1, e2, ⟨r, μ', hq, hΦ, hR'⟩, hgo⟩ := hr T hT X
  have hv : v = r.map (zv G) := Outcome.returned.inj hq
  subst hv
  rw [show n - n0 + (n' - n) = n' - n0 by omega, show u - u0 + (u' - u) = u' - u0 by omega] at X'
  have k1 := kk r μ' hΦ p e R s m args below meth c n0 u0 B (by omega) (by omega) T'.heap (locs ++ L) ls (by rw [e1]; exact hR') (fun q hq => by
    rcases List.mem_append.mp hq with h | h
    · exact hl q h
    · exact hL q h) hlv
  obtain ⟨t2, a1, b1⟩ := k1 T' rfl X'
  refine ⟨t2, hgo _ ?_, b1⟩
  have e3 : (r.map (zv G)).toList ++ st.map (zv G) = (r.toList ++ st).map (zv G) := by cases r <;> simp
  rw [e3]
  exact a1
theorem z_pre (B : zB G d M p R s m args meth c n0 u0 nF uF) (hR : zR G H n μ) (as : List Value) : ∀ U : State, U.heap = H → s.WarmedH U.vm → zPc G as n μ (as.map (zv G)).toArray U := by
  intro U hU hW
  exact ⟨rfl, zO_warm hW (zB_O B), by rw [hU]; exact hR⟩
theorem z_callB {d' n' u' : Nat} {M' : zM} {na : Nat} (B : zB G d M p R s m args meth c n0 u0 nF uF) (hdd : d' < d) (hk : kC M' na) : (zRm d' (n' - n) (u' - u)).cells = n' - n ∧ (zRm d' (n' - n) (u' - u)).slots = u' - u ∧ (zRm d' (n' - n) (u' - u)).frames + 1 ≤ R.frames ∧ 8 + (mL M' + 11) + (zRm d' (n' - n) (u' - u)).locals ≤ R.locals ∧
    (∀ w ∈ zwd M', ∀ (a' : Array Value) (U : State), s.WarmedH U.vm → w.before a' U = true) ∧ Cond.code (mY M') (mC M') (mL M') (mR M') ∈ zwd M' := by
  have hB := zB_n B
  refine ⟨rfl, rfl, ?_, ?_, pay_in (zB_T B) (z_good hk.1), List.mem_cons_self⟩
  · show d' + 1 ≤ R.frames
    omega
  · show 8 + (mL M' + 11) + 32 * d' ≤ R.locals
    have := hk.2.2.2.2
    omega
end B2
abbrev zmon (st : List Value) : Prop := (st.map fun v => v.category).sum ≤ 8
theorem z_mon {m : MethodId} {ls : Array Slot} {x : List Value} (h : zmon st) : 2 * (F0 m pc ls x).monitorRoom + ((st.map (zv G)).map fun v => v.category).sum ≤ 8 := by
  refine lv_room ?_
  have hcs : ((st.map (zv G)).map fun v => v.category) = st.map fun v => v.category := by rw [List.map_map]; exact List.map_congr_left (fun v _ => zv_cat v)
  rw [hcs]
  exact h
def kS (own : String) (idx : Nat) (M' : zM) (na : Nat) : Prop := kC M' na ∧ Cond.static (mY M') ∈ zT ∧ ((Cond.methodLink own idx (mY M') ∈ zT) ∨ ∃ host, Cond.methodLinkNest own idx (mY M') host ∈ zNW)
theorem z_callS {idx d' n' u' : Nat} {M' : zM} {na : Nat} {as ra : List Value} {Φ' : zP} (k : Nat) (hd : (mI M)[k]? = some (pc, .invokestatic idx, 3)) (hp : pc + 3 = pc') (hk : kS (mO M) idx M' na) (hM : zMet G d' M' as n u μ n' u' Φ') (hdd : d' < d) (hn : n' ≤ nF) (hu : u' ≤ uF) (hna : as.length = na) (has : as.reverse ++ st = ra) (hmon : zmon st)
    (kk : ∀ r μ', Φ' r μ' → zW G d M pc' lv (r.toList ++ st) n' u' μ' nF uF Φ) : zW G d M pc lv ra n u μ nF uF Φ := by
  subst hp; subst has; subst hna
  obtain ⟨hC, hst, hlk⟩ := hk
  obtain ⟨m1, m2, m3⟩ := hM
  intro p e R s m args below meth c n0 u0 B h1 h2 H locs ls hR hl hlv
  have hB := zB_n B
  have hcb := z_callB (n := n) (u := u) (n' := n') (u' := u') (M' := M') B hdd hC
  have hT := zB_T B
  refine z_run (d' := d') (a := (as.map (zv G)).toArray) B h1 h2 m1 m2 hl hlv ?_ kk
  rcases hlk with hlk | ⟨host, hlk⟩
  · exact va_runS (As := as.map (zv G)) (n := as.length) ⟨B.1, B.2.1, B.2.2.2.1, zB_own B, hT⟩ m3 ⟨⟨hcb.1, hcb.2.1, hcb.2.2.1, hcb.2.2.2.1, hcb.2.2.2.2.1, hcb.2.2.2.2.2, hT _ hC.1, hT _ hC.2.1, hC.2.2.1, kC_par hC, hT _ hlk⟩, hT _ hst⟩ ⟨z_blind, z_pre B hR as⟩ rfl (by simp) hlv.1 (by simp) (z_mon hmon) (z_dec (zB_ok B) hd) ⟨by omega, by omega⟩
  · exact va_runSN (host := host) (As := as.map (zv G)) (n := as.length) ⟨B.1, B.2.1, B.2.2.2.1, zB_own B, hT⟩ m3 ⟨⟨⟨hcb.1, hcb.2.1, hcb.2.2.1, hcb.2.2.2.1, hcb.2.2.2.2.1, hcb.2.2.2.2.2⟩, hT _ hC.1, hT _ hC.2.1, hC.2.2.1, kC_par hC, va_Nw.use rfl ((zB_O B).2.1 _ hlk)⟩, hT _ hst, trivial⟩ ⟨z_blind, z_pre B hR as⟩ rfl (by simp) hlv.1 (by simp) (z_mon hmon) (z_dec (zB_ok B) hd) ⟨by omega, by omega⟩
theorem z_recv {p : Program} {R : Room} {s : State} {m : MethodId} {args : Array Value} {meth : Method} {c : Code} {n0 u0 : Nat} {H : Heap} (B : zB G d M p R s m args meth c n0 u0 nF uF) (hR : zR G H n μ) {a ci : Nat} {C : String} {T : u_T} {N : Nat} {fs : List Value} (hm : μ a = .inr (ci, fs)) (hc : zCl[ci]? = some (C, T, N)) : ∃ cellB : Cell, H[za G a]? = some cellB ∧ cellB.vm.isStatics = false ∧ s.vm.findClass C = some cellB.cls := by
  have hci : ci ≠ 99 := by
    intro e
    subst e
    cases hc
  obtain ⟨g1, g2⟩ := zR_in hR hm hci
  have he := zws_at (G := G) (n := n) (μ := μ) g1 g2
  rw [hm] at he
  exact va_recv (zB_K B) hR.2.2.1 hc he
/-- a call of a method that its receiver's own class ci has -/
def kV (own : String) (idx ci : Nat) (M' : zM) (na : Nat) : Prop := kC M' na ∧ ∃ (C : String) (T : u_T) (N : Nat), zCl[ci]? = some (C, T, N) ∧ Cond.instanceMethod (mY M') ∈ zT ∧ Cond.selects C (mY M') (mY M') ∈ zT ∧ Cond.methodLink own idx (mY M') ∈ zT
theorem z_callV {idx ci a d' n' u' : Nat} {M' : zM} {na : Nat} {as ra : List Value} {fs : List Value} {Φ' : zP} (k : Nat) (hd : (mI M)[k]? = some (pc, .invokevirtual idx, 3)) (hp : pc + 3 = pc') (hk : kV (mO M) idx ci M' na) (hm : μ a = .inr (ci, fs)) (hM : zMet G d' M' (.ref a :: as) n u μ n' u' Φ') (hdd : d' < d) (hn : n' ≤ nF) (hu : u' ≤ uF) (hna : as.length = na) (has : as.reverse ++ .ref a :: st = ra) (hmon : zmon st)
    (kk : ∀ r μ', Φ' r μ' → zW G d M pc' lv (r.toList ++ st) n' u' μ' nF uF Φ) : zW G d M pc lv ra n u μ nF uF Φ := by
  subst hp; subst has; subst hna
  obtain ⟨hC, C, T, N, f1, f2, f3, f4⟩ := hk
  obtain ⟨m1, m2, m3⟩ := hM
  intro p e R s m args below meth c n0 u0 B h1 h2 H locs ls hR hl hlv
  have hB := zB_n B
  have hcb := z_callB (n := n) (u := u) (n' := n') (u' := u') (M' := M') B hdd hC
  have hT := zB_T B
  refine z_run (d' := d') (a := (Value.ref (za G a) :: as.map (zv G)).toArray) B h1 h2 m1 m2 hl hlv ?_ kk
  exact va_runV (C := C) (b := za G a) (As := as.map (zv G)) (n := as.length) ⟨B.1, B.2.1, B.2.2.2.1, zB_own B, hT⟩ m3 ⟨⟨hcb.1, hcb.2.1, hcb.2.2.1, hcb.2.2.2.1, hcb.2.2.2.2.1, hcb.2.2.2.2.2, hT _ hC.1, hT _ hC.2.1, hC.2.2.1, kC_par hC, hT _ f4⟩, hT _ f2, hT _ f3⟩ ⟨z_blind, z_recv B hR hm f1, z_pre B hR (.ref a :: as)⟩ rfl (by simp) hlv.1 (by simp [zv]) (z_mon hmon) (z_dec (zB_ok B) hd) ⟨by omega, by omega⟩
/-- a constructor's call -/
def kI (own : String) (idx : Nat) (M' : zM) (na : Nat) : Prop := kC M' na ∧ mR M' = none ∧ (mY M').name = "<init>" ∧ Cond.instanceMethod (mY M') ∈ zT ∧ ((Cond.methodLink own idx (mY M') ∈ zT) ∨ ∃ host, Cond.methodLinkNest own idx (mY M') host ∈ zNW)
theorem z_callI {idx a d' n' u' : Nat} {M' : zM} {na : Nat} {as ra : List Value} {Φ' : zP} (k : Nat) (hd : (mI M)[k]? = some (pc, .invokespecial idx, 3)) (hp : pc + 3 = pc') (hk : kI (mO M) idx M' na) (hM : zMet G d' M' (.ref a :: as) n u μ n' u' Φ') (hdd : d' < d) (hn : n' ≤ nF) (hu : u' ≤ uF) (hna : as.length = na) (has : as.reverse ++ .ref a :: st = ra) (hmon : zmon st)
    (kk : ∀ r μ', Φ' r μ' → zW G d M pc' lv (r.toList ++ st) n' u' μ' nF uF Φ) : zW G d M pc lv ra n u μ nF uF Φ := by
  subst hp; subst has; subst hna
  obtain ⟨hC, hr0, hnm, hin, hlk⟩ := hk
  obtain ⟨m1, m2, m3⟩ := hM
  intro p e R s m args below meth c n0 u0 B h1 h2 H locs ls hR hl hlv
  have hB := zB_n B
  have hcb := z_callB (n := n) (u := u) (n' := n') (u' := u') (M' := M') B hdd hC
  have hT := zB_T B
  have hcd := hT _ hC.1
  rw [hr0] at hcd
  have hcm := hcb.2.2.2.2.2
  rw [hr0] at hcm
  refine z_run (d' := d') (a := (Value.ref (za G a) :: as.map (zv G)).toArray) B h1 h2 m1 m2 hl hlv ?_ kk
  rcases hlk with hlk | ⟨host, hlk⟩
  · exact va_runI (b := za G a) (As := as.map (zv G)) (n := as.length) ⟨B.1, B.2.1, B.2.2.2.1, zB_own B, hT⟩ m3 ⟨⟨hcb.1, hcb.2.1, hcb.2.2.1, hcb.2.2.2.1, hcb.2.2.2.2.1, hcm, hcd, hT _ hC.2.1, hC.2.2.1, kC_par hC, hT _ hlk⟩, hnm, hT _ hin⟩ ⟨z_blind, z_pre B hR (.ref a :: as)⟩ rfl (by simp) hlv.1 (by simp [zv]) (z_mon hmon) (z_dec (zB_ok B) hd) ⟨by omega, by omega⟩
  · exact va_runIN (host := host) (b := za G a) (As := as.map (zv G)) (n := as.length) ⟨B.1, B.2.1, B.2.2.2.1, zB_own B, hT⟩ m3 ⟨⟨⟨hcb.1, hcb.2.1, hcb.2.2.1, hcb.2.2.2.1, hcb.2.2.2.2.1, hcm⟩, hcd, hT _ hC.2.1, hC.2.2.1, kC_par hC, va_Nw.use rfl ((zB_O B).2.1 _ hlk)⟩, hnm, hT _ hin⟩ ⟨z_blind, z_pre B hR (.ref a :: as)⟩ rfl (by simp) hlv.1 (by simp [zv]) (z_mon hmon) (z_dec (zB_ok B) hd) ⟨by omega, by omega⟩
/-- Object's own constructor -/
theorem z_objInit {idx a : Nat} (k : Nat) (hd : (mI M)[k]? = some (pc, .invokespecial idx, 3)) (hp : pc + 3 = pc') (hdp : 1 ≤ d) (hw : Cond.methodLink (mO M) idx objectInit ∈ zT) (hw2 : Cond.instanceMethod objectInit ∈ zT) (hw3 : Cond.code objectInit ⟨#[0xb1]⟩ 1 none ∈ zT) (hmon : zmon st) (kk : zW G d M pc' lv st n u μ nF uF Φ) : zW G d M pc lv (.ref a :: st) n u μ nF uF Φ := by
  subst hp
  intro p e R s m args below meth c n0 u0 B h1 h2 H locs ls hR hl hlv
  have hB := zB_n B
  have h8 := z_mon (G := G) (st := st) (m := m) (ls := ls) (pc := pc) (x := (Value.ref a :: st).map (zv G)) hmon
  exact W.objInit B.1 B.2.1 (zB_own B) (zB_T B _ hw) (zB_T B _ hw2) (zB_T B _ hw3) rfl (by rw [B.2.2.2.1]; exact hlv.1) (a := za G a) (rest := st.map (zv G)) rfl (z_dec (zB_ok B) hd) (by omega) (by omega) (kk p e R s m args below meth c n0 u0 B h1 h2 H locs ls hR hl hlv)
/-- a call that is resolved to owner's method x and selects, in the receiver's class ci, the method M' -/
def kU (own : String) (idx ci : Nat) (x : MethodName) (owner : String) (M' : zM) (na : Nat) : Prop := kC M' na ∧ x.desc = (mY M').desc ∧ (owner ≠ "java/lang/invoke/MethodHandle" ∧ owner ≠ "java/lang/invoke/VarHandle") ∧ ∃ (C : String) (T : u_T) (N : Nat), zCl[ci]? = some (C, T, N) ∧ Cond.methodLink own idx x ∈ zT ∧ Cond.sameMethod x.cls owner x.name x.desc ∈ zT ∧
  ((Cond.instanceMethod ⟨owner, x.name, x.desc⟩ ∈ zT ∧ ∃ (b0 : ByteArray) (m0 : Nat) (r0 : Option FieldType), Cond.code ⟨owner, x.name, x.desc⟩ b0 m0 r0 ∈ zT) ∨ Cond.declares ⟨owner, x.name, x.desc⟩ ∈ zNW) ∧ Cond.selects C x (mY M') ∈ zT ∧ Cond.instanceMethod (mY M') ∈ zT
theorem z_callU {idx ci a d' n' u' : Nat} {x : MethodName} {owner : String} {M' : zM} {na : Nat} {as ra : List Value} {fs : List Value} {Φ' : zP} (k : Nat) (hd : (mI M)[k]? = some (pc, .invokevirtual idx, 3)) (hp : pc + 3 = pc') (hk : kU (mO M) idx ci x owner M' na) (hm : μ a = .inr (ci, fs)) (hM : zMet G d' M' (.ref a :: as) n u μ n' u' Φ') (hdd : d' < d) (hn : n' ≤ nF) (hu : u' ≤ uF) (hna : as.length = na) (has : as.reverse ++ .ref a :: st = ra) (hmon : zmon st)
    (kk : ∀ r μ', Φ' r μ' → zW G d M pc' lv (r.toList ++ st) n' u' μ' nF uF Φ) : zW G d M pc lv ra n u μ nF uF Φ := by
  subst hp; subst has; subst hna
  obtain ⟨hC, hde, how, C, T, N, f1, f2, f3, f4, f5, f6⟩ := hk
  obtain ⟨m1, m2, m3⟩ := hM
  intro p e R s m args below meth c n0 u0 B h1 h2 H locs ls hR hl hlv
  have hB := zB_n B
  have hcb := z_callB (n := n) (u := u) (n' := n') (u' := u') (M' := M') B hdd hC
  have hT := zB_T B
  have hdec : va_Decl s ⟨owner, x.name, x.desc⟩ := by
    rcases f4 with ⟨g1, b0, m0, r0, g2⟩ | g1
    · exact va_Decl.of (hT _ g1) (hT _ g2)
    · exact va_Decl.abs ((zB_O B).2.1 _ g1)
  refine z_run (d' := d') (a := (Value.ref (za G a) :: as.map (zv G)).toArray) B h1 h2 m1 m2 hl hlv ?_ kk
  exact va_runU (C := C) (owner := owner) (x := x) (b := za G a) (As := as.map (zv G)) (n := as.length) ⟨B.1, B.2.1, B.2.2.2.1, zB_own B, hT⟩ m3 ⟨⟨hcb.1, hcb.2.1, hcb.2.2.1, hcb.2.2.2.1, hcb.2.2.2.2.1, hcb.2.2.2.2.2⟩, hT _ hC.1, hT _ hC.2.1, how, (by rw [hde]; exact kC_par hC), hT _ f2, hT _ f3, hdec, hT _ f5, hT _ f6⟩ ⟨z_blind, z_recv B hR hm f1, z_pre B hR (.ref a :: as)⟩ rfl (by simp) hlv.1 (by simp [zv]) (z_mon hmon) (z_dec (zB_ok B) hd) ⟨by omega, by omega⟩
/-- a call of super's method -/
def kP (own : String) (idx : Nat) (M' : zM) (na : Nat) : Prop := kC M' na ∧ Cond.methodLink own idx (mY M') ∈ zT ∧ Cond.sameMethod (mY M').cls (mY M').cls (mY M').name (mY M').desc ∈ zT ∧ Cond.superclass own (mY M').cls ∈ zT ∧ Cond.instanceMethod (mY M') ∈ zT ∧ (mY M').name ≠ "<init>"
theorem z_callP {idx ci a d' n' u' : Nat} {C : String} {T : u_T} {N : Nat} {M' : zM} {na : Nat} {as ra : List Value} {fs : List Value} {Φ' : zP} (k : Nat) (hd : (mI M)[k]? = some (pc, .invokespecial idx, 3)) (hp : pc + 3 = pc') (hk : kP (mO M) idx M' na) (hm : μ a = .inr (ci, fs)) (hci : zCl[ci]? = some (C, T, N)) (hM : zMet G d' M' (.ref a :: as) n u μ n' u' Φ') (hdd : d' < d) (hn : n' ≤ nF) (hu : u' ≤ uF) (hna : as.length = na) (has : as.reverse ++ .ref a :: st = ra) (hmon : zmon st)
    (kk : ∀ r μ', Φ' r μ' → zW G d M pc' lv (r.toList ++ st) n' u' μ' nF uF Φ) : zW G d M pc lv ra n u μ nF uF Φ := by
  subst hp; subst has; subst hna
  obtain ⟨hC, f2, f3, f4, f5, f6⟩ := hk
  obtain ⟨m1, m2, m3⟩ := hM
  intro p e R s m args below meth c n0 u0 B h1 h2 H locs ls hR hl hlv
  have hB := zB_n B
  have hcb := z_callB (n := n) (u := u) (n' := n') (u' := u') (M' := M') B hdd hC
  have hT := zB_T B
  refine z_run (d' := d') (a := (Value.ref (za G a) :: as.map (zv G)).toArray) B h1 h2 m1 m2 hl hlv ?_ kk
  exact va_runSU (C := C) (b := za G a) (As := as.map (zv G)) (n := as.length) ((zB_K B).1 ci _ hci).2 ⟨B.1, B.2.1, B.2.2.2.1, zB_own B, hT⟩ m3 ⟨⟨hcb.1, hcb.2.1, hcb.2.2.1, hcb.2.2.2.1, hcb.2.2.2.2.1, hcb.2.2.2.2.2⟩, hT _ f2, hT _ f3, hT _ f4, hT _ f5, hT _ hC.2.1, hT _ hC.1, f6, kC_par hC⟩ ⟨z_blind, z_recv B hR hm hci, z_pre B hR (.ref a :: as)⟩ rfl (by simp) hlv.1 (by simp [zv]) (z_mon hmon) (z_dec (zB_ok B) hd) ⟨by omega, by omega⟩
theorem z_callS1 {idx d' n' u' : Nat} {M' : zM} {na : Nat} {as ra : List Value} {v : Value} {μ' : Nat → va_E} (k : Nat) (hd : (mI M)[k]? = some (pc, .invokestatic idx, 3)) (hp : pc + 3 = pc') (hk : kS (mO M) idx M' na) (hM : zMet G d' M' as n u μ n' u' (zE (some v) μ')) (hdd : d' < d) (hn : n' ≤ nF) (hu : u' ≤ uF) (hna : as.length = na) (has : as.reverse ++ st = ra) (hmon : zmon st)
    (kk : zW G d M pc' lv (v :: st) n' u' μ' nF uF Φ) : zW G d M pc lv ra n u μ nF uF Φ :=
  z_callS k hd hp hk hM hdd hn hu hna has hmon (fun r0 μ0 h => by obtain ⟨rfl, rfl⟩ := h; exact kk)
theorem z_callS0 {idx d' n' u' : Nat} {M' : zM} {na : Nat} {as ra : List Value} {μ' : Nat → va_E} (k : Nat) (hd : (mI M)[k]? = some (pc, .invokestatic idx, 3)) (hp : pc + 3 = pc') (hk : kS (mO M) idx M' na) (hM : zMet G d' M' as n u μ n' u' (zE none μ')) (hdd : d' < d) (hn : n' ≤ nF) (hu : u' ≤ uF) (hna : as.length = na) (has : as.reverse ++ st = ra) (hmon : zmon st)
    (kk : zW G d M pc' lv (st) n' u' μ' nF uF Φ) : zW G d M pc lv ra n u μ nF uF Φ :=
  z_callS k hd hp hk hM hdd hn hu hna has hmon (fun r0 μ0 h => by obtain ⟨rfl, rfl⟩ := h; exact kk)
theorem z_callV1 {idx ci a d' n' u' : Nat} {M' : zM} {na : Nat} {as ra : List Value} {fs : List Value} {v : Value} {μ' : Nat → va_E} (k : Nat) (hd : (mI M)[k]? = some (pc, .invokevirtual idx, 3)) (hp : pc + 3 = pc') (hk : kV (mO M) idx ci M' na) (hm : μ a = .inr (ci, fs)) (hM : zMet G d' M' (.ref a :: as) n u μ n' u' (zE (some v) μ')) (hdd : d' < d) (hn : n' ≤ nF) (hu : u' ≤ uF) (hna : as.length = na) (has : as.reverse ++ .ref a :: st = ra) (hmon : zmon st)
    (kk : zW G d M pc' lv (v :: st) n' u' μ' nF uF Φ) : zW G d M pc lv ra n u μ nF uF Φ :=
  z_callV k hd hp hk hm hM hdd hn hu hna has hmon (fun r0 μ0 h => by obtain ⟨rfl, rfl⟩ := h; exact kk)
theorem z_callV0 {idx ci a d' n' u' : Nat} {M' : zM} {na : Nat} {as ra : List Value} {fs : List Value} {μ' : Nat → va_E} (k : Nat) (hd : (mI M)[k]? = some (pc, .invokevirtual idx, 3)) (hp : pc + 3 = pc') (hk : kV (mO M) idx ci M' na) (hm : μ a = .inr (ci, fs)) (hM : zMet G d' M' (.ref a :: as) n u μ n' u' (zE none μ')) (hdd : d' < d) (hn : n' ≤ nF) (hu : u' ≤ uF) (hna : as.length = na) (has : as.reverse ++ .ref a :: st = ra) (hmon : zmon st)
    (kk : zW G d M pc' lv (st) n' u' μ' nF uF Φ) : zW G d M pc lv ra n u μ nF uF Φ :=
  z_callV k hd hp hk hm hM hdd hn hu hna has hmon (fun r0 μ0 h => by obtain ⟨rfl, rfl⟩ := h; exact kk)
theorem z_callI1 {idx a d' n' u' : Nat} {M' : zM} {na : Nat} {as ra : List Value} {v : Value} {μ' : Nat → va_E} (k : Nat) (hd : (mI M)[k]? = some (pc, .invokespecial idx, 3)) (hp : pc + 3 = pc') (hk : kI (mO M) idx M' na) (hM : zMet G d' M' (.ref a :: as) n u μ n' u' (zE (some v) μ')) (hdd : d' < d) (hn : n' ≤ nF) (hu : u' ≤ uF) (hna : as.length = na) (has : as.reverse ++ .ref a :: st = ra) (hmon : zmon st)
    (kk : zW G d M pc' lv (v :: st) n' u' μ' nF uF Φ) : zW G d M pc lv ra n u μ nF uF Φ :=
  z_callI k hd hp hk hM hdd hn hu hna has hmon (fun r0 μ0 h => by obtain ⟨rfl, rfl⟩ := h; exact kk)
theorem z_callI0 {idx a d' n' u' : Nat} {M' : zM} {na : Nat} {as ra : List Value} {μ' : Nat → va_E} (k : Nat) (hd : (mI M)[k]? = some (pc, .invokespecial idx, 3)) (hp : pc + 3 = pc') (hk : kI (mO M) idx M' na) (hM : zMet G d' M' (.ref a :: as) n u μ n' u' (zE none μ')) (hdd : d' < d) (hn : n' ≤ nF) (hu : u' ≤ uF) (hna : as.length = na) (has : as.reverse ++ .ref a :: st = ra) (hmon : zmon st)
    (kk : zW G d M pc' lv (st) n' u' μ' nF uF Φ) : zW G d M pc lv ra n u μ nF uF Φ :=
  z_callI k hd hp hk hM hdd hn hu hna has hmon (fun r0 μ0 h => by obtain ⟨rfl, rfl⟩ := h; exact kk)
theorem z_callU1 {idx ci a d' n' u' : Nat} {x : MethodName} {owner : String} {M' : zM} {na : Nat} {as ra : List Value} {fs : List Value} {v : Value} {μ' : Nat → va_E} (k : Nat) (hd : (mI M)[k]? = some (pc, .invokevirtual idx, 3)) (hp : pc + 3 = pc') (hk : kU (mO M) idx ci x owner M' na) (hm : μ a = .inr (ci, fs)) (hM : zMet G d' M' (.ref a :: as) n u μ n' u' (zE (some v) μ')) (hdd : d' < d) (hn : n' ≤ nF) (hu : u' ≤ uF) (hna : as.length = na) (has : as.reverse ++ .ref a :: st = ra) (hmon : zmon st)
    (kk : zW G d M pc' lv (v :: st) n' u' μ' nF uF Φ) : zW G d M pc lv ra n u μ nF uF Φ :=
  z_callU k hd hp hk hm hM hdd hn hu hna has hmon (fun r0 μ0 h => by obtain ⟨rfl, rfl⟩ := h; exact kk)
theorem z_callU0 {idx ci a d' n' u' : Nat} {x : MethodName} {owner : String} {M' : zM} {na : Nat} {as ra : List Value} {fs : List Value} {μ' : Nat → va_E} (k : Nat) (hd : (mI M)[k]? = some (pc, .invokevirtual idx, 3)) (hp : pc + 3 = pc') (hk : kU (mO M) idx ci x owner M' na) (hm : μ a = .inr (ci, fs)) (hM : zMet G d' M' (.ref a :: as) n u μ n' u' (zE none μ')) (hdd : d' < d) (hn : n' ≤ nF) (hu : u' ≤ uF) (hna : as.length = na) (has : as.reverse ++ .ref a :: st = ra) (hmon : zmon st)
    (kk : zW G d M pc' lv (st) n' u' μ' nF uF Φ) : zW G d M pc lv ra n u μ nF uF Φ :=
  z_callU k hd hp hk hm hM hdd hn hu hna has hmon (fun r0 μ0 h => by obtain ⟨rfl, rfl⟩ := h; exact kk)
theorem z_callP1 {idx ci a d' n' u' : Nat} {C : String} {T : u_T} {N : Nat} {M' : zM} {na : Nat} {as ra : List Value} {fs : List Value} {v : Value} {μ' : Nat → va_E} (k : Nat) (hd : (mI M)[k]? = some (pc, .invokespecial idx, 3)) (hp : pc + 3 = pc') (hk : kP (mO M) idx M' na) (hm : μ a = .inr (ci, fs)) (hci : zCl[ci]? = some (C, T, N)) (hM : zMet G d' M' (.ref a :: as) n u μ n' u' (zE (some v) μ')) (hdd : d' < d) (hn : n' ≤ nF) (hu : u' ≤ uF) (hna : as.length = na) (has : as.reverse ++ .ref a :: st = ra) (hmon : zmon st)
    (kk : zW G d M pc' lv (v :: st) n' u' μ' nF uF Φ) : zW G d M pc lv ra n u μ nF uF Φ :=
  z_callP k hd hp hk hm hci hM hdd hn hu hna has hmon (fun r0 μ0 h => by obtain ⟨rfl, rfl⟩ := h; exact kk)
theorem z_callP0 {idx ci a d' n' u' : Nat} {C : String} {T : u_T} {N : Nat} {M' : zM} {na : Nat} {as ra : List Value} {fs : List Value} {μ' : Nat → va_E} (k : Nat) (hd : (mI M)[k]? = some (pc, .invokespecial idx, 3)) (hp : pc + 3 = pc') (hk : kP (mO M) idx M' na) (hm : μ a = .inr (ci, fs)) (hci : zCl[ci]? = some (C, T, N)) (hM : zMet G d' M' (.ref a :: as) n u μ n' u' (zE none μ')) (hdd : d' < d) (hn : n' ≤ nF) (hu : u' ≤ uF) (hna : as.length = na) (has : as.reverse ++ .ref a :: st = ra) (hmon : zmon st)
    (kk : zW G d M pc' lv (st) n' u' μ' nF uF Φ) : zW G d M pc lv ra n u μ nF uF Φ :=
  z_callP k hd hp hk hm hci hM hdd hn hu hna has hmon (fun r0 μ0 h => by obtain ⟨rfl, rfl⟩ := h; exact kk)
end ZC
