def M_Js_charAt : zM := ("java/lang/String", ⟨"java/lang/String", "charAt", "(I)C"⟩, prog_16_method_56_code, 2, (some .char), [
  (0, .aload_n 0, 1), (1, .invokevirtual 492, 3), (4, .ifCond .eq 12, 3), (7, .aload_n 0, 1), (8, .getfield 9, 3), (11, .iload_n 1, 1),
  (12, .invokestatic 495, 3), (15, .ireturn, 1), (16, .aload_n 0, 1), (17, .getfield 9, 3), (20, .iload_n 1, 1), (21, .invokestatic 498, 3),
  (24, .ireturn, 1)])
set_option maxRecDepth 100000 in
theorem K_Js_charAt : mOk M_Js_charAt := by decide +kernel
set_option maxRecDepth 20000 in
theorem kc_Js_charAt : kC M_Js_charAt 1 := ⟨z_mem 559 (by rfl) rfl, z_mem 108 (by decide +kernel) rfl, ⟨by decide, by decide⟩, by decide +kernel, by decide⟩
def M_Js_isLatin1 : zM := ("java/lang/String", ⟨"java/lang/String", "isLatin1", "()Z"⟩, prog_16_method_154_code, 1, (some .boolean), [
  (0, .getstatic 38, 3), (3, .ifCond .eq 14, 3), (6, .aload_n 0, 1), (7, .getfield 15, 3), (10, .ifCond .ne 7, 3), (13, .iconst 1, 1),
  (14, .goto 4, 3), (17, .iconst 0, 1), (18, .ireturn, 1)])
set_option maxRecDepth 100000 in
theorem K_Js_isLatin1 : mOk M_Js_isLatin1 := by decide +kernel
set_option maxRecDepth 20000 in
theorem kc_Js_isLatin1 : kC M_Js_isLatin1 0 := ⟨z_mem 563 (by rfl) rfl, z_mem 108 (by decide +kernel) rfl, ⟨by decide, by decide⟩, by decide +kernel, by decide⟩
def M_Jl_charAt : zM := ("java/lang/StringLatin1", ⟨"java/lang/StringLatin1", "charAt", "([BI)C"⟩, prog_17_method_2_code, 2, (some .char), [
  (0, .iload_n 1, 1), (1, .aload_n 0, 1), (2, .arraylength, 1), (3, .invokestatic 9, 3), (6, .aload_n 0, 1), (7, .iload_n 1, 1),
  (8, .baload, 1), (9, .sipush 255, 3), (12, .iand, 1), (13, .i2c, 1), (14, .ireturn, 1)])
set_option maxRecDepth 100000 in
theorem K_Jl_charAt : mOk M_Jl_charAt := by decide +kernel
set_option maxRecDepth 20000 in
theorem kc_Jl_charAt : kC M_Jl_charAt 2 := ⟨z_mem 568 (by rfl) rfl, z_mem 109 (by decide +kernel) rfl, ⟨by decide, by decide⟩, by decide +kernel, by decide⟩
def M_Js_checkIndex : zM := ("java/lang/String", ⟨"java/lang/String", "checkIndex", "(II)V"⟩, prog_16_method_155_code, 2, none, [
  (0, .iload_n 0, 1), (1, .iload_n 1, 1), (2, .getstatic 1053, 3), (5, .invokestatic 1059, 3), (8, .pop, 1), (9, .return_, 1)])
set_option maxRecDepth 100000 in
theorem K_Js_checkIndex : mOk M_Js_checkIndex := by decide +kernel
set_option maxRecDepth 20000 in
theorem kc_Js_checkIndex : kC M_Js_checkIndex 2 := ⟨z_mem 571 (by rfl) rfl, z_mem 108 (by decide +kernel) rfl, ⟨by decide, by decide⟩, by decide +kernel, by decide⟩
def M_Jp_checkIndex : zM := ("jdk/internal/util/Preconditions", ⟨"jdk/internal/util/Preconditions", "checkIndex", "(IILjava/util/function/BiFunction;)I"⟩, prog_20_method_11_code, 3, (some .int), [
  (0, .iload_n 0, 1), (1, .ifCond .lt 8, 3), (4, .iload_n 0, 1), (5, .iload_n 1, 1), (6, .if_icmp .lt 10, 3), (9, .aload_n 2, 1),
  (10, .iload_n 0, 1), (11, .iload_n 1, 1), (12, .invokestatic 95, 3), (15, .athrow, 1), (16, .iload_n 0, 1), (17, .ireturn, 1)])
set_option maxRecDepth 100000 in
theorem K_Jp_checkIndex : mOk M_Jp_checkIndex := by decide +kernel
set_option maxRecDepth 20000 in
theorem kc_Jp_checkIndex : kC M_Jp_checkIndex 3 := ⟨z_mem 576 (by rfl) rfl, z_mem 110 (by decide +kernel) rfl, ⟨by decide, by decide⟩, by decide +kernel, by decide⟩
theorem k_Jl_9 : kS "java/lang/StringLatin1" 9 M_Js_checkIndex 2 := ⟨kc_Js_checkIndex, z_mem 570 (by decide +kernel) rfl, Or.inl (z_mem 569 (by decide +kernel) rfl)⟩
theorem k_Js_1059 : kS "java/lang/String" 1059 M_Jp_checkIndex 3 := ⟨kc_Jp_checkIndex, z_mem 575 (by decide +kernel) rfl, Or.inl (z_mem 574 (by decide +kernel) rfl)⟩
theorem k_Js_495 : kS "java/lang/String" 495 M_Jl_charAt 2 := ⟨kc_Jl_charAt, z_mem 567 (by decide +kernel) rfl, Or.inl (z_mem 566 (by decide +kernel) rfl)⟩
theorem q_Jl_9 : Cond.methodLink "java/lang/StringLatin1" 9 (mY M_Js_checkIndex) ∈ zT := z_mem 569 (by decide +kernel) rfl
theorem q_Js_1059 : Cond.methodLink "java/lang/String" 1059 (mY M_Jp_checkIndex) ∈ zT := z_mem 574 (by decide +kernel) rfl
theorem q_Js_495 : Cond.methodLink "java/lang/String" 495 (mY M_Jl_charAt) ∈ zT := z_mem 566 (by decide +kernel) rfl
/-- a call of a method of the constant string -/
def kJ (own : String) (idx : Nat) (M' : zM) (na : Nat) : Prop := kC M' na ∧ Cond.instanceMethod (mY M') ∈ zT ∧ Cond.selects "java/lang/String" (mY M') (mY M') ∈ zT ∧ Cond.methodLink own idx (mY M') ∈ zT
theorem k_Js_492 : kJ "java/lang/String" 492 M_Js_isLatin1 0 := ⟨kc_Js_isLatin1, z_mem 561 (by decide +kernel) rfl, z_mem 562 (by decide +kernel) rfl, z_mem 560 (by decide +kernel) rfl⟩
theorem k_Ta_70 : kJ "WindBrides$Tape" 70 M_Js_charAt 1 := ⟨kc_Js_charAt, z_mem 557 (by decide +kernel) rfl, z_mem 558 (by decide +kernel) rfl, z_mem 556 (by decide +kernel) rfl⟩
theorem g_Js_38 : Cond.fieldLink "java/lang/String" 38 "java/lang/String" "COMPACT_STRINGS" "Z" ∈ zT := z_mem 564 (by decide +kernel) rfl
theorem g_Js_15 : Cond.fieldLink "java/lang/String" 15 "java/lang/String" "coder" "B" ∈ zT := z_mem 1817 (by decide +kernel) rfl
theorem g_Js_9 : Cond.fieldLink "java/lang/String" 9 "java/lang/String" "value" "[B" ∈ zT := z_mem 1818 (by decide +kernel) rfl
theorem g_Js_1053 : Cond.fieldLink "java/lang/String" 1053 "jdk/internal/util/Preconditions" "SIOOBE_FORMATTER" "Ljava/util/function/BiFunction;" ∈ zT := z_mem 572 (by decide +kernel) rfl
section ZJ
variable {G : zG} {d : Nat} {M : zM} {pc pc' : Nat} {lv st : List Value} {n u : Nat} {μ : Nat → va_E} {nF uF : Nat} {Φ : zP}
variable {p : Program} {e : Env} {R : Room} {s : State} {m : MethodId} {args : Array Value} {below : List Frame} {meth : Method} {c : Code} {n0 u0 : Nat} {H : Heap} {locs : List Loc} {ls : Array Slot}
def XV (G : zG) (a : Nat) (U : State) : Prop := va_T .byte a 126 (fun j => .int (zWordB.getD j 0)) (zQ G) U (zH G)
theorem vkS_T {W : List Int32} {x a : Nat} {A : Nat → Prop} {U : State} {H : Heap} (h : vk_S 1 [126] [W] (fun _ => x) (fun _ => a) A U H) : va_T .byte a 126 (fun j => .int (W.getD j 0)) A U H := (h.1 0 (by decide)).2.2.2
theorem zB_kept (B : zB G d M p R s m args meth c n0 u0 nF uF) : ∀ q : Nat, q < (zH G).size → ¬ zQ G q → s.heap[q]? = (zH G)[q]? := fun q _ hq => zB_low B q (Nat.lt_of_not_le hq)
theorem z_str (B : zB G d M p R s m args meth c n0 u0 nF uF) : ∃ a : Nat, vk_S 1 [126] [zWordB] (fun _ => zsp G 3) (fun _ => a) (zQ G) s s.heap ∧ XV G a s := by
  obtain ⟨-, -, -, -, -, -, -, -, -, ⟨a, h⟩, -, -, -⟩ := zB_O B
  exact ⟨a, h.kept (zB_kept B), vkS_T h⟩
theorem r_run {d' : Nat} {st0 st1 : List Value} {r0 : Option Value} {a : Array Value} (B : zB G d M p R s m args meth c n0 u0 nF uF) (h1 : n0 ≤ n) (h2 : u0 ≤ u) (hl : ∀ q ∈ locs, zb G ≤ q.base) (h0 : r0.map (zv G) = r0) (Q : State → Prop)
    (hr : va_Run p (zl G) e R s m args below meth c H locs (n - n0) (u - u0) (n - n) (u - u) (F0 m pc ls st0) st1 (zQc G (zE r0 μ) n a) (zQ G))
    (kk : ∀ (H1 : Heap) (locs1 : List Loc), zR G H1 n μ → (∀ q ∈ locs1, zb G ≤ q.base) → W p (zl G) e R s m args below meth c H1 locs1 (n - n0) (u - u0) Q (F0 m (pc + 3) ls (r0.toList ++ st1))) :
    W p (zl G) e R s m args below meth c H locs (n - n0) (u - u0) Q (F0 m pc ls st0) := by
  intro T hT X
  obtain ⟨v, st₀, t, T', L, e0, X', hL, e1, e2, ⟨r, μ', hq, hΦ, hR'⟩, hgo⟩ := hr T hT X
  obtain ⟨rfl, rfl⟩ := hΦ
  have hv : v = r.map (zv G) := Outcome.returned.inj hq
  rw [h0] at hv
  subst hv
  rw [show n - n0 + (n - n) = n - n0 by omega, show u - u0 + (u - u) = u - u0 by omega] at X'
  have k1 := kk T'.heap (locs ++ L) (by rw [e1]; exact hR') (fun q hq => by
    rcases List.mem_append.mp hq with h | h
    · exact hl q h
    · exact hL q h)
  obtain ⟨t2, a1, b1⟩ := k1 T' rfl X'
  exact ⟨t2, hgo _ a1, b1⟩
/-- raw arguments -/
def rMet (G : zG) (X : State → Prop) (d : Nat) (M : zM) (ras : List Value) (n u : Nat) (μ : Nat → va_E) (Φ : zP) : Prop := Met (zl G) (mY M) (zwd M) (zRm d (n - n) (u - u)) (va_Pc ras (fun U => X U ∧ zO G U ∧ zR G U.heap n μ)) (zQc G Φ n) (n - n) (u - u) (zQ G)
theorem r_blind {X : State → Prop} {ras : List Value} (hX : ∀ u U : State, U.vm = u.vm → X u → X U) : FrameBlind (va_Pc ras (fun U => X U ∧ zO G U ∧ zR G U.heap n μ)) := by
  intro a U g mk h
  obtain ⟨h1, h0, h2, h3⟩ := h
  exact ⟨h1, hX U _ rfl h0, zO_same (u := U) rfl h2, h3⟩
theorem r_callS {idx d' na : Nat} {X : State → Prop} {M' : zM} {ras st1 st0 : List Value} {r0 : Option Value} (B : zB G d M p R s m args meth c n0 u0 nF uF) (h1 : n0 ≤ n) (h2 : u0 ≤ u) (hR : zR G H n μ) (hl : ∀ q ∈ locs, zb G ≤ q.base) (hls : ls.size = mL M) (k : Nat) (hd : (mI M)[k]? = some (pc, .invokestatic idx, 3)) (hk : Cond.methodLink (mO M) idx (mY M') ∈ zT) (hst : Cond.static (mY M') ∈ zT) (hC : kC M' na) (hM : rMet G X d' M' ras n u μ (zE r0 μ)) (hX : ∀ u U : State, U.vm = u.vm → X u → X U) (hX2 : ∀ U : State, s.WarmedH U.vm → X U) (hdd : d' < d) (hnF : n ≤ nF) (huF : u ≤ uF) (hna : ras.length = na) (has : ras.reverse ++ st1 = st0) (hmon : (st1.map fun v => v.category).sum ≤ 8) (h0 : r0.map (zv G) = r0) (Q : State → Prop)
    (kk : ∀ (H1 : Heap) (locs1 : List Loc), zR G H1 n μ → (∀ q ∈ locs1, zb G ≤ q.base) → W p (zl G) e R s m args below meth c H1 locs1 (n - n0) (u - u0) Q (F0 m (pc + 3) ls (r0.toList ++ st1))) :
    W p (zl G) e R s m args below meth c H locs (n - n0) (u - u0) Q (F0 m pc ls st0) := by
  subst has; subst hna
  have hcb := z_callB (n := n) (u := u) (n' := n) (u' := u) (M' := M') B hdd hC
  have hB := zB_n B
  have hT := zB_T B
  refine r_run (d' := d') (a := ras.toArray) B h1 h2 hl h0 Q ?_ kk
  exact va_runS (As := ras) (n := ras.length) ⟨B.1, B.2.1, B.2.2.2.1, zB_own B, hT⟩ hM ⟨⟨hcb.1, hcb.2.1, hcb.2.2.1, hcb.2.2.2.1, hcb.2.2.2.2.1, hcb.2.2.2.2.2, hT _ hC.1, hT _ hC.2.1, hC.2.2.1, kC_par hC, hT _ hk⟩, hT _ hst⟩ ⟨r_blind hX, fun U hU hW => ⟨rfl, hX2 U hW, zO_warm hW (zB_O B), by rw [hU]; exact hR⟩⟩ rfl (by simp) hls (by simp) (lv_room hmon) (z_dec (zB_ok B) hd) ⟨by omega, by omega⟩
theorem r_start {X : State → Prop} {ras : List Value} (hok : mOk M) (hy : plainName (mY M).cls = true) (hown : (mY M).cls = mO M) (hle : (lg_sl ras).length ≤ mL M)
    (h : ∀ (p : Program) (e : Env) (R : Room) (s : State) (m : MethodId) (args : Array Value) (below : List Frame) (meth : Method) (c : Code) (ls : Array Slot), zB G d M p R s m args meth c n u n u → X s → zR G s.heap n μ → lv_has ls (mL M) (lv_args 0 ras) → W p (zl G) e R s m args below meth c s.heap [] (n - n) (u - u) (MQ below (zQc G Φ n) args s (n - n) (u - u) (zQ G)) (F0 m 0 ls [])) : rMet G X d M ras n u μ Φ := by
  refine Met.ofW (cc := mC M) (maxL := mL M) (ret := mR M) hy rfl ?_
  intro p e s m args below meth c s₁ B hml hv
  obtain ⟨rfl, hX, hO, hR⟩ := hv
  have hts := atoms_spec (ws := zwd M) B.pre
  have hls := lv_entry ras (n := mL M) hle
  rw [lg_entry_eq]
  have hB : zB G d M p (headSpec (zwd M) (zRm d (n - n) (u - u))).room s m ras.toArray meth c n u n u :=
    ⟨B.exec, B.bytes, B.returns, hml, by rw [← hown]; exact findClass_of_methodNamed B.named, fun w hw => hts w (List.mem_cons_of_mem _ hw), hO, B.notSynchronized, (name_of_methodNamed B.named B.method).1, hR.2.2.2.1, hR.2.1, hok, hR.1, Nat.le_refl _, Nat.le_refl _, Nat.le_refl _, Nat.le_refl _, Nat.le_refl _, Nat.le_refl _⟩
  have k := h p e _ s m _ below meth c _ hB hX hR hls
  rw [Nat.sub_self, Nat.sub_self] at k ⊢
  exact k
theorem rMet_of {as : List Value} {Φ' : zP} (h : zMet G d M as n u μ n u Φ') : rMet G (fun _ => True) d M (as.map (zv G)) n u μ Φ' := by
  obtain ⟨-, -, h3⟩ := h
  intro p e ha hc hk s m args below hf hap hP hK
  exact h3 p e ha hc hk s m args below hf hap ⟨hP.1, hP.2.2⟩ hK
/-- a method of the constant string -/
theorem z_callJ {idx d' na : Nat} {M' : zM} {as ra : List Value} {r0 : Option Value} (k : Nat) (hd : (mI M)[k]? = some (pc, .invokevirtual idx, 3)) (hp : pc + 3 = pc') (hk : kJ (mO M) idx M' na) (hM : zMet G d' M' (.ref 3 :: as) n u μ n u (zE r0 μ)) (hdd : d' < d) (hn : n ≤ nF) (hu : u ≤ uF) (hna : as.length = na) (has : as.reverse ++ .ref 3 :: st = ra) (hmon : zmon st)
    (kk : zW G d M pc' lv (r0.toList ++ st) n u μ nF uF Φ) : zW G d M pc lv ra n u μ nF uF Φ := by
  subst hp; subst has; subst hna
  obtain ⟨hC, f2, f3, f4⟩ := hk
  obtain ⟨m1, m2, m3⟩ := hM
  intro p e R s m args below meth c n0 u0 B h1 h2 H locs ls hR hl hlv
  have hB := zB_n B
  have hcb := z_callB (n := n) (u := u) (n' := n) (u' := u) (M' := M') B hdd hC
  have hT := zB_T B
  obtain ⟨a, hE, -⟩ := z_str B
  refine z_run (d' := d') (Φ' := zE r0 μ) (a := (Value.ref (za G 3) :: as.map (zv G)).toArray) B h1 h2 m1 m2 hl hlv ?_ (fun r μ' hΦ => by obtain ⟨rfl, rfl⟩ := hΦ; exact kk)
  exact va_runV (C := "java/lang/String") (b := za G 3) (As := as.map (zv G)) (n := as.length) ⟨B.1, B.2.1, B.2.2.2.1, zB_own B, hT⟩ m3 ⟨⟨hcb.1, hcb.2.1, hcb.2.2.1, hcb.2.2.2.1, hcb.2.2.2.2.1, hcb.2.2.2.2.2, hT _ hC.1, hT _ hC.2.1, hC.2.2.1, kC_par hC, hT _ f4⟩, hT _ f2, hT _ f3⟩ ⟨z_blind, vk_recv hE (i := 0) (by decide) (z_S B h1 hR hl), z_pre B hR (.ref 3 :: as)⟩ rfl (by simp) hlv.1 (by simp [zv]) (z_mon hmon) (z_dec (zB_ok B) hd) ⟨by omega, by omega⟩
theorem z_getsC {idx : Nat} (k : Nat) (hd : (mI M)[k]? = some (pc, .getstatic idx, 3)) (hp : pc + 3 = pc') (hlk : Cond.fieldLink (mO M) idx "java/lang/String" "COMPACT_STRINGS" "Z" ∈ zT) (kk : zW G d M pc' lv (.int 1 :: st) n u μ nF uF Φ) : zW G d M pc lv st n u μ nF uF Φ := by
  subst hp
  intro p e R s m args below meth c n0 u0 B h1 h2 H locs ls hR hl hlv
  obtain ⟨-, -, -, -, -, -, -, -, -, -, o11, -, -⟩ := zB_O B
  exact va_gets B.1 B.2.1 (o11.kept (zB_kept B)) (z_S B h1 hR hl) (zB_own B) (zB_T B _ hlk) (fun _ h => h) (z_dec (zB_ok B) hd) (kk p e R s m args below meth c n0 u0 B h1 h2 H locs ls hR hl hlv)
theorem z_getfC {idx : Nat} (k : Nat) (hd : (mI M)[k]? = some (pc, .getfield idx, 3)) (hp : pc + 3 = pc') (hlk : Cond.fieldLink (mO M) idx "java/lang/String" "coder" "B" ∈ zT) (kk : zW G d M pc' lv (.int 0 :: st) n u μ nF uF Φ) : zW G d M pc lv (.ref 3 :: st) n u μ nF uF Φ := by
  subst hp
  intro p e R s m args below meth c n0 u0 B h1 h2 H locs ls hR hl hlv
  obtain ⟨a, hE, -⟩ := z_str B
  exact vk_getf B.1 B.2.1 (hE.1 0 (by decide)).2.1 (z_S B h1 hR hl) (zB_own B) (zB_T B _ hlk) (fun _ h => h) (z_dec (zB_ok B) hd) (kk p e R s m args below meth c n0 u0 B h1 h2 H locs ls hR hl hlv)
end ZJ
theorem c_Js_isLatin1 {G : zG} {n u : Nat} {μ : Nat → va_E} : zMet G 0 M_Js_isLatin1 [.ref 3] n u μ n u (zE (some (.int 1)) μ) := by
  refine z_start (lv := [.ref 3]) K_Js_isLatin1 rfl rfl (Nat.le_refl _) (Nat.le_refl _) (Nat.le_of_ble_eq_true rfl) rfl ?_
  refine z_getsC (pc' := 3) 0 rfl rfl g_Js_38 ?_
  refine z_if_eq_f (pc' := 6) 1 rfl rfl (tgt := 17) rfl (by decide) ?_
  refine z_al0 (pc' := 7) 2 rfl rfl ?_
  refine z_getfC (pc' := 10) 3 rfl rfl g_Js_15 ?_
  refine z_if_ne_f (pc' := 13) 4 rfl rfl (tgt := 17) rfl rfl ?_
  refine z_iconst (v := 1) (by decide) (pc' := 14) 5 rfl rfl ?_
  refine z_goto 6 rfl (tgt := 18) rfl ?_
  exact z_ireturn 8 rfl rfl (by rfl) rfl rfl ⟨rfl, rfl⟩
theorem c_Jp_checkIndex {G : zG} {n u : Nat} {μ : Nat → va_E} {k N : Nat} (hk : k < N) (hN : N < 2 ^ 31) {v : Value} (hv : v = .null ∨ ∃ t, v = .ref t) : rMet G (fun _ => True) 0 M_Jp_checkIndex [.int (nI k), .int (nI N), v] n u μ (zE (some (.int (nI k))) μ) := by
  have hlen : (lg_sl [.int (nI k), .int (nI N), v]).length ≤ mL M_Jp_checkIndex := by
    rcases hv with rfl | ⟨t, rfl⟩ <;> exact Nat.le_of_ble_eq_true rfl
  refine r_start K_Jp_checkIndex rfl rfl hlen ?_
  intro p e R s m args below meth c ls B _ hR hls
  have hz : zW G 0 M_Jp_checkIndex 0 [.int (nI k), .int (nI N), .retAddr 0] [] n u μ n u (zE (some (.int (nI k))) μ) := by
    refine z_il0 (pc' := 1) 0 rfl rfl ?_
    refine z_if_lt_f (pc' := 4) 1 rfl rfl (tgt := 9) rfl (fun z => ?_) ?_
    · have := (nI_ltI (a := k) (b := 0) (by omega) (by decide)).mp z
      omega
    refine z_il0 (pc' := 5) 2 rfl rfl ?_
    refine z_il1 (pc' := 6) 3 rfl rfl ?_
    refine z_icmp_lt_t 4 rfl (tgt := 16) rfl ((nI_ltI (by omega) hN).mpr hk) ?_
    refine z_il0 (pc' := 17) 10 rfl rfl ?_
    exact z_ireturn 11 rfl rfl (by rfl) rfl rfl ⟨rfl, rfl⟩
  refine hz p e R s m args below meth c n u B (Nat.le_refl _) (Nat.le_refl _) s.heap [] ls hR (fun q hq => by cases hq) ⟨hls.1, hls.2.1, fun q hq => hls.2.2 q ?_⟩
  obtain ⟨i, w, g1, g2, g3⟩ := (zal_mem _ 0 q).mp hq
  subst g3
  have e0 : lv_args 0 [.int (nI k), .int (nI N), v] = (0, .int (nI k)) :: (1, .int (nI N)) :: lv_args 2 [v] := rfl
  rw [e0]
  match i, g1 with
  | 0, g1 => cases g1; exact List.mem_cons_self ..
  | 1, g1 => cases g1; exact List.mem_cons_of_mem _ (List.mem_cons_self ..)
  | 2, g1 => cases g1; cases g2
theorem c_Js_checkIndex {G : zG} {n u : Nat} {μ : Nat → va_E} {k N : Nat} (hk : k < N) (hN : N < 2 ^ 31) : zMet G 1 M_Js_checkIndex [.int (nI k), .int (nI N)] n u μ n u (zE none μ) := by
  refine z_start (lv := [.int (nI k), .int (nI N)]) K_Js_checkIndex rfl rfl (Nat.le_refl _) (Nat.le_refl _) (Nat.le_of_ble_eq_true rfl) rfl ?_
  refine z_il0 (pc' := 1) 0 rfl rfl ?_
  refine z_il1 (pc' := 2) 1 rfl rfl ?_
  intro p e R s m args below meth c n0 u0 B h1 h2 H locs ls hR hl hlv
  obtain ⟨-, -, -, -, -, -, -, -, -, -, -, o12, -⟩ := zB_O B
  have hz : zW G 1 M_Js_checkIndex 8 [.int (nI k), .int (nI N)] [.int (nI k)] n u μ n u (zE none μ) := by
    refine z_pop rfl (pc' := 9) 4 rfl rfl ?_
    exact z_return 5 rfl rfl rfl rfl ⟨rfl, rfl⟩
  have go : ∀ v : Value, (v = .null ∨ ∃ t, v = .ref t) → va_Z "jdk/internal/util/Preconditions" "SIOOBE_FORMATTER" "Ljava/util/function/BiFunction;" v (zQ G) s (zH G) → W p (zl G) e R s m args below meth c H locs (n - n0) (u - u0) (MQ below (zQc G (zE none μ) n) args s (n - n0) (u - u0) (zQ G)) (F0 m 2 ls ([Value.int (nI N), .int (nI k)].map (zv G))) := fun v hv hZ => by
    refine va_gets B.1 B.2.1 (hZ.kept (zB_kept B)) (z_S B h1 hR hl) (zB_own B) (zB_T B _ g_Js_1053) (fun _ h => h) (z_dec (zB_ok B) (k := 2) rfl) ?_
    refine r_callS (X := fun _ => True) (ras := [.int (nI k), .int (nI N), v]) (st1 := []) (r0 := some (.int (nI k))) B h1 h2 hR hl hlv.1 3 rfl q_Js_1059 k_Js_1059.2.1 kc_Jp_checkIndex (c_Jp_checkIndex hk hN hv) (fun _ _ _ h => h) (fun _ _ => trivial) (by decide) (Nat.le_refl _) (Nat.le_refl _) rfl rfl (by decide) rfl _ ?_
    · intro H1 locs1 hR1 hl1
      exact hz p e R s m args below meth c n0 u0 B h1 h2 H1 locs1 ls hR1 hl1 hlv
  rcases o12 with o | ⟨t, o⟩
  · exact go _ (Or.inl rfl) o
  · exact go _ (Or.inr ⟨t, rfl⟩) o
theorem wb_i2c : ∀ k, k < 126 → ((zWordB.getD k 0 &&& 255).toUInt32 % 65536).toInt32 = nI (WD k) := by decide +kernel
theorem wb_nar : ∀ k, k < 126 → narrow .char (.int (nI (WD k))) = .int (nI (WD k)) := by decide +kernel
theorem c_Jl_charAt {G : zG} {n u : Nat} {μ : Nat → va_E} {a k : Nat} (hk : k < 126) : rMet G (XV G a) 2 M_Jl_charAt [.ref a, .int (nI k)] n u μ (zE (some (.int (nI (WD k)))) μ) := by
  refine r_start K_Jl_charAt rfl rfl (Nat.le_of_ble_eq_true rfl) ?_
  intro p e R s m args below meth c ls B hX hR hls
  have e0 : ls[0]? = some (.val (.ref a)) := hls.2.2 (0, .ref a) (List.mem_cons_self ..)
  have e1 : ls[1]? = some (.val (.int (nI k))) := hls.2.2 (1, .int (nI k)) (List.mem_cons_of_mem _ (List.mem_cons_self ..))
  have hV : va_T .byte a 126 (fun j => .int (zWordB.getD j 0)) (zQ G) s s.heap := hX.kept (zB_kept B)
  refine lv_iload_n B.1 B.2.1 (z_dec (zB_ok B) (k := 0) rfl) rfl e1 ?_
  refine lv_aload_n B.1 B.2.1 (z_dec (zB_ok B) (k := 1) rfl) rfl e0 ?_
  refine va_tlen B.1 B.2.1 hV (z_S B (Nat.le_refl _) hR (fun q hq => by cases hq)) (v := nI 126) rfl (z_dec (zB_ok B) (k := 2) rfl) ?_
  have hM : rMet G (fun _ => True) 1 M_Js_checkIndex [.int (nI k), .int (nI 126)] n u μ (zE none μ) := rMet_of (as := [.int (nI k), .int (nI 126)]) (c_Js_checkIndex hk (by decide))
  refine r_callS (X := fun _ => True) (ras := [.int (nI k), .int (nI 126)]) (st1 := []) (r0 := none) B (Nat.le_refl _) (Nat.le_refl _) hR (fun q hq => by cases hq) hls.1 3 rfl q_Jl_9 k_Jl_9.2.1 kc_Js_checkIndex hM (fun _ _ _ h => h) (fun _ _ => trivial) (by decide) (Nat.le_refl _) (Nat.le_refl _) rfl rfl (by decide) rfl _ ?_
  intro H1 locs1 hR1 hl1
  refine lv_aload_n B.1 B.2.1 (z_dec (zB_ok B) (k := 4) rfl) rfl e0 ?_
  refine lv_iload_n B.1 B.2.1 (z_dec (zB_ok B) (k := 5) rfl) rfl e1 ?_
  refine va_tb B.1 B.2.1 hV (z_S B (Nat.le_refl _) hR1 hl1) (vp_in_nI hk (by decide)) (v := .int (zWordB.getD k 0)) (by rw [nI_clamp (by omega)]) (z_dec (zB_ok B) (k := 6) rfl) ?_
  refine lv_sipush B.1 B.2.1 (z_dec (zB_ok B) (k := 7) rfl) (v := 255) (by decide) ?_
  refine lv_iand B.1 B.2.1 (z_dec (zB_ok B) (k := 8) rfl) ?_
  refine lv_i2c B.1 B.2.1 (z_dec (zB_ok B) (k := 9) rfl) (v := nI (WD k)) (wb_i2c k hk) ?_
  exact W.zret (ty := .char) B.1 B.2.1 (B.2.2.1.trans rfl) (wb_nar k hk) (fun t ht hW => ⟨some (.int (nI (WD k))), _, rfl, ⟨rfl, rfl⟩, by rw [ht]; exact hR1⟩) hl1 (z_dec (zB_ok B) (k := 10) rfl) (hlocks := B.2.2.2.2.2.2.2.1)
theorem c_Js_charAt {G : zG} {n u : Nat} {μ : Nat → va_E} {k : Nat} (hk : k < 126) : zMet G 3 M_Js_charAt [.ref 3, .int (nI k)] n u μ n u (zE (some (.int (nI (WD k)))) μ) := by
  refine z_start (lv := [.ref 3, .int (nI k)]) K_Js_charAt rfl rfl (Nat.le_refl _) (Nat.le_refl _) (Nat.le_of_ble_eq_true rfl) rfl ?_
  refine z_al0 (pc' := 1) 0 rfl rfl ?_
  refine z_callJ (pc' := 4) 1 rfl rfl k_Js_492 c_Js_isLatin1 (by decide) (Nat.le_refl _) (Nat.le_refl _) rfl rfl (Nat.le_of_ble_eq_true rfl) ?_
  refine z_if_eq_f (pc' := 7) 2 rfl rfl (tgt := 16) rfl (by decide) ?_
  refine z_al0 (pc' := 8) 3 rfl rfl ?_
  intro p e R s m args below meth c n0 u0 B h1 h2 H locs ls hR hl hlv
  have hz : zW G 3 M_Js_charAt 15 [.ref 3, .int (nI k)] [.int (nI (WD k))] n u μ n u (zE (some (.int (nI (WD k)))) μ) := z_ireturn 7 rfl rfl (wb_nar k hk) rfl rfl ⟨rfl, rfl⟩
  obtain ⟨a, hE, hV⟩ := z_str B
  refine vk_getf B.1 B.2.1 (hE.1 0 (by decide)).2.2.1 (z_S B h1 hR hl) (zB_own B) (zB_T B _ g_Js_9) (fun _ h => h) (z_dec (zB_ok B) (k := 4) rfl) ?_
  refine lv_iload_n B.1 B.2.1 (z_dec (zB_ok B) (k := 5) rfl) rfl (zlv_at hlv (i := 1) (v := .int (nI k)) rfl rfl) ?_
  refine r_callS (X := XV G a) (ras := [.ref a, .int (nI k)]) (st1 := []) (r0 := some (.int (nI (WD k)))) B h1 h2 hR hl hlv.1 6 rfl q_Js_495 k_Js_495.2.1 kc_Jl_charAt (c_Jl_charAt hk) (fun u0 U hv h => va_T.moved (by rw [hv]; exact Vm.Alike.refl _) h) (fun U hW => va_T.moved hW.alike hV) (by decide) (Nat.le_refl _) (Nat.le_refl _) rfl rfl (by decide) rfl _ ?_
  · intro H1 locs1 hR1 hl1
    exact hz p e R s m args below meth c n0 u0 B h1 h2 H1 locs1 ls hR1 hl1 hlv
