section ZH
variable {G : zG} {d : Nat} {M : zM} {pc pc' : Nat} {lv st : List Value} {n u : Nat} {μ : Nat → va_E} {nF uF : Nat} {Φ : zP}
theorem zW_size {p : Program} {l : Launch} {e : Env} {R : Room} {s : State} {m : MethodId} {args : Array Value} {below : List Frame} {meth : Method} {c : Code} {H : Heap} {locs : List Loc} {cells slots : Nat} {Q : State → Prop} {g : JFrame}
    (hh : H.size ≤ s.heap.size + cells → W p l e R s m args below meth c H locs cells slots Q g) : W p l e R s m args below meth c H locs cells slots Q g := by
  intro T hT X
  have h0 : T.heap.size ≤ s.heap.size + cells := X.same.2.2.1
  rw [hT] at h0
  exact hh h0 T hT X
section B1
variable {p : Program} {e : Env} {R : Room} {s : State} {m : MethodId} {args : Array Value} {below : List Frame} {meth : Method} {c : Code} {n0 u0 : Nat} {H H1 : Heap} {locs locs1 : List Loc}
theorem zB_K (B : zB G d M p R s m args meth c n0 u0 nF uF) : va_K (zD G) zCl (ztys G) s := B.2.2.2.2.2.2.1.1
theorem zB_T (B : zB G d M p R s m args meth c n0 u0 nF uF) : ∀ w ∈ zT, w.before args s = true := B.2.2.2.2.2.1
theorem zB_own (B : zB G d M p R s m args meth c n0 u0 nF uF) : s.vm.findClass (mO M) = some m.cls := B.2.2.2.2.1
theorem zB_O (B : zB G d M p R s m args meth c n0 u0 nF uF) : zO G s := B.2.2.2.2.2.2.1
theorem zB_low (B : zB G d M p R s m args meth c n0 u0 nF uF) : ∀ q, q < zb G → s.heap[q]? = (zH G)[q]? := B.2.2.2.2.2.2.2.2.2.1
theorem zB_sz (B : zB G d M p R s m args meth c n0 u0 nF uF) : s.heap.size = zb G + (n0 - 4) := B.2.2.2.2.2.2.2.2.2.2.1
theorem zB_n (B : zB G d M p R s m args meth c n0 u0 nF uF) : 4 ≤ n0 ∧ n0 ≤ nF ∧ u0 ≤ uF ∧ d ≤ R.frames ∧ 32 * d ≤ R.locals ∧ nF - n0 ≤ R.cells ∧ uF - u0 ≤ R.slots := B.2.2.2.2.2.2.2.2.2.2.2.2
theorem z_S (B : zB G d M p R s m args meth c n0 u0 nF uF) (h1 : n0 ≤ n) (hR : zR G H n μ) (hl : ∀ q ∈ locs, zb G ≤ q.base) : va_S (zQ G) s.heap H locs := by
  have hz := zB_sz B
  have hH := hR.2.1
  refine ⟨by omega, fun q hq hA => ?_, hl⟩
  have : q < zb G := Nat.lt_of_not_le hA
  rw [hR.2.2.2.1 q this, zB_low B q this]
theorem z_putEnd (B : zB G d M p R s m args meth c n0 u0 nF uF) (h1 : n0 ≤ n) (hR : zR G H n μ) {a : Nat} {cl : va_E} (h4 : 4 ≤ a) (hn : a < n) (hP : va_P (zD G) zCl (zws G n (zu μ a cl)) H1) (hS : va_S (zQ G) s.heap H1 locs1) (hsz : H1.size ≤ s.heap.size + (n - n0)) : zR G H1 n (zu μ a cl) := by
  have hz := zB_sz B
  have hB := zB_n B
  have hlow : zb G + (n - 1 - 4) < H1.size := by
    have := (hP (n - 1 - 4) _ (zws_at (G := G) (n := n) (μ := zu μ a cl) (i := n - 1) (by omega) (by omega))).lt
    simp only [za] at this
    rw [if_neg (by omega)] at this
    exact this
  have hH := hR.2.1
  refine zR_set hR h4 hn hP (by omega) (fun q hq => ?_)
  rw [hS.2.1 q (by omega) (Nat.not_le.mpr hq), zB_low B q hq, hR.2.2.2.1 q hq]
theorem z_newEnd (B : zB G d M p R s m args meth c n0 u0 nF uF) (h1 : n0 ≤ n) (hR : zR G H n μ) {q0 : Nat} {cl : va_E} (hP : va_P (zD G) zCl (zws G n μ ++ [(q0, ze G cl)]) H1) (hD : va_D (zQ G) (zws G n μ ++ [(q0, ze G cl)])) (hS : va_S (zQ G) s.heap H1 locs1) (hsz : H1.size ≤ s.heap.size + (n - n0 + 1)) : q0 = za G n ∧ zR G H1 (n + 1) (zu μ n cl) := by
  have hz := zB_sz B
  have hB := zB_n B
  have hlen : (zws G n μ).length = n - 4 := by simp [zws]
  have hlast : (zws G n μ ++ [(q0, ze G cl)])[n - 4]? = some (q0, ze G cl) := by
    rw [List.getElem?_append_right (by omega), hlen, Nat.sub_self]
    rfl
  have hlt : q0 < H1.size := (hP _ _ hlast).lt
  have hge : zb G ≤ q0 := hD.2 _ _ hlast
  have hq : q0 = zb G + (n - 4) := by
    rcases Nat.lt_or_ge q0 (zb G + (n - 4)) with h | h
    · exfalso
      have hk : (zws G n μ ++ [(q0, ze G cl)])[q0 - zb G]? = some (za G (q0 - zb G + 4), ze G (μ (q0 - zb G + 4))) := by
        rw [List.getElem?_append_left (by omega)]
        have := zws_at (G := G) (n := n) (μ := μ) (i := q0 - zb G + 4) (by omega) (by omega)
        rw [show q0 - zb G + 4 - 4 = q0 - zb G by omega] at this
        exact this
      have := hD.1 _ _ _ _ hk hlast (by simp only [za]; rw [if_neg (by omega)]; omega)
      omega
    · omega
  have hza : za G n = zb G + (n - 4) := by simp only [za]; rw [if_neg (by omega)]
  refine ⟨by rw [hza]; exact hq, ?_⟩
  subst hq
  rw [zws_push (by omega)] at hP
  have hH := hR.2.1
  refine zR_new hR hP (by omega) (fun q hq => ?_)
  rw [hS.2.1 q (by omega) (Nat.not_le.mpr hq), zB_low B q hq, hR.2.2.2.1 q hq]
end B1
/-! fields -/
def zF (own : String) (idx ci fk : Nat) (ty : FieldType) (fin : Bool) : Prop := ∃ (C : String) (T : u_T) (N : Nat) (ref : String) (ty0 : Nat → FieldType), zCl[ci]? = some (C, T, N) ∧ fk < N ∧ (∀ w ∈ u_ws C T N, w ∈ zT) ∧ Cond.fieldLink own idx ref (T fk).2.1 (T fk).2.2.1 ∈ zT ∧
  (ref = (T fk).1 ∨ Cond.sameField ref (T fk).1 (T fk).2.1 (T fk).2.2.1 ∈ zT) ∧ (∀ k, k < N → parseFieldDescriptor (T k).2.2.1 = some (ty0 k)) ∧ (∀ a, a < N → ∀ b, b < N → a ≠ b → (T a).2.1 ≠ (T b).2.1) ∧ (T fk).2.2.2 = fin ∧ parseFieldDescriptor (T fk).2.2.1 = some ty ∧ (fin = true → (T fk).1 = own)
theorem zF_ci {own : String} {idx ci fk : Nat} {ty : FieldType} {fin : Bool} (h : zF own idx ci fk ty fin) : ci ≠ 99 := by
  obtain ⟨C, T, N, ref, ty0, h1, -⟩ := h
  intro e
  subst e
  cases h1
theorem z_same {s : State} {args : Array Value} {T : u_T} {fk : Nat} {ref : String} (hts : ∀ w ∈ zT, w.before args s = true) (h : ref = (T fk).1 ∨ Cond.sameField ref (T fk).1 (T fk).2.1 (T fk).2.2.1 ∈ zT) : ∀ x, s.fieldFound? (T fk).1 (T fk).2.1 (T fk).2.2.1 = some x → s.fieldFound? ref (T fk).2.1 (T fk).2.2.1 = some x := by
  rcases h with h | h
  · subst h
    exact fun _ h => h
  · exact fun x hx => u_same (hts _ h) x hx
theorem z_getf {a ci fk idx : Nat} {fs : List Value} {v : Value} {ty : FieldType} {fin : Bool} (k : Nat) (hd : (mI M)[k]? = some (pc, .getfield idx, 3)) (hp : pc + 3 = pc') (hf : zF (mO M) idx ci fk ty fin) (hm : μ a = .inr (ci, fs)) (hv : fs[fk]? = some v) (kk : zW G d M pc' lv (v :: st) n u μ nF uF Φ) : zW G d M pc lv (.ref a :: st) n u μ nF uF Φ := by
  subst hp
  have hci := zF_ci hf
  obtain ⟨C, T, N, ref, ty0, f1, f2, f3, f4, f5, -⟩ := hf
  intro p e R s m args below meth c n0 u0 B h1 h2 H locs ls hR hl hlv
  obtain ⟨g1, g2⟩ := zR_in hR hm hci
  have he := zws_at (G := G) (n := n) (μ := μ) g1 g2
  rw [hm] at he
  exact va_get B.1 B.2.1 (zB_T B) f3 (zB_own B) (zB_K B) hR.2.2.1 (a - 4) he f1 fk f2 (zB_T B _ f4) (z_same (zB_T B) f5) (v := zv G v) (by rw [List.getElem?_map, hv]; rfl) (z_dec (zB_ok B) hd) (kk p e R s m args below meth c n0 u0 B h1 h2 H locs ls hR hl hlv)
theorem zv_nar {ty : FieldType} {v : Value} (h : narrow ty v = v) : narrow ty (zv G v) = zv G v := by
  cases v <;> first | exact h | (cases ty <;> rfl)
theorem zv_fit {ty : FieldType} {v : Value} (h : fits ty v = true) : fits ty (zv G v) = true := by
  cases v <;> first | exact h | (cases ty <;> first | rfl | cases h)
theorem z_putf {a ci fk idx : Nat} {fs fs' : List Value} {v : Value} {ty : FieldType} (k : Nat) (hd : (mI M)[k]? = some (pc, .putfield idx, 3)) (hp : pc + 3 = pc') (hf : zF (mO M) idx ci fk ty false) (hm : μ a = .inr (ci, fs)) (hn : narrow ty v = v) (hfit : fits ty v = true) (hl0 : Nat.blt fk fs.length = true) (hs : fs.set fk v = fs')
    (kk : zW G d M pc' lv st n u (zu μ a (.inr (ci, fs'))) nF uF Φ) : zW G d M pc lv (v :: .ref a :: st) n u μ nF uF Φ := by
  subst hp; subst hs
  have hci := zF_ci hf
  obtain ⟨C, T, N, ref, ty0, f1, f2, f3, f4, f5, f6, f7, f8, f9, f10⟩ := hf
  intro p e R s m args below meth c n0 u0 B h1 h2 H locs ls hR hl hlv
  obtain ⟨g1, g2⟩ := zR_in hR hm hci
  have he := zws_at (G := G) (n := n) (μ := μ) g1 g2
  rw [hm] at he
  refine va_put B.1 B.2.1 (zB_T B) f3 ty0 f6 f7 (zB_own B) (zB_K B) hR.2.2.1 zws_D (z_S B h1 hR hl) (a - 4) he f1 fk f2 (zB_T B _ f4) (z_same (zB_T B) f5) f8 f9 (v := zv G v) (zv_nar hn) (zv_fit hfit) (by rw [List.length_map]; exact Nat.le_of_ble_eq_true hl0) (z_dec (zB_ok B) hd) (fun H1 locs1 hP1 hD1 hS1 => ?_)
  have e1 : (Sum.inr (ci, (fs.map (zv G)).set fk (zv G v)) : va_E) = ze G (.inr (ci, fs.set fk v)) := by simp only [ze, List.map_set]
  rw [e1, zws_set g1 g2] at hP1
  refine zW_size (fun hsz => ?_)
  exact kk p e R s m args below meth c n0 u0 B h1 h2 H1 locs1 ls (z_putEnd B h1 hR g1 g2 hP1 hS1 hsz) hS1.2.2 hlv
theorem z_putF {a ci fk idx : Nat} {fs fs' : List Value} {v : Value} {ty : FieldType} (k : Nat) (hd : (mI M)[k]? = some (pc, .putfield idx, 3)) (hp : pc + 3 = pc') (hi : (mY M).name = "<init>") (hf : zF (mO M) idx ci fk ty true) (hm : μ a = .inr (ci, fs)) (hn : narrow ty v = v) (hfit : fits ty v = true) (hl0 : Nat.blt fk fs.length = true) (hs : fs.set fk v = fs')
    (kk : zW G d M pc' lv st n u (zu μ a (.inr (ci, fs'))) nF uF Φ) : zW G d M pc lv (v :: .ref a :: st) n u μ nF uF Φ := by
  subst hp; subst hs
  have hci := zF_ci hf
  obtain ⟨C, T, N, ref, ty0, f1, f2, f3, f4, f5, f6, f7, f8, f9, f10⟩ := hf
  intro p e R s m args below meth c n0 u0 B h1 h2 H locs ls hR hl hlv
  obtain ⟨g1, g2⟩ := zR_in hR hm hci
  have he := zws_at (G := G) (n := n) (μ := μ) g1 g2
  rw [hm] at he
  refine va_putF B.1 B.2.1 (zB_T B) f3 ty0 f6 f7 (zB_own B) (zB_K B) hR.2.2.1 zws_D (z_S B h1 hR hl) (a - 4) he f1 fk f2 (zB_T B _ f4) (z_same (zB_T B) f5) f8 (B.2.2.2.2.2.2.2.2.1.trans hi) (f10 rfl) f9 (v := zv G v) (zv_nar hn) (zv_fit hfit) (by rw [List.length_map]; exact Nat.le_of_ble_eq_true hl0) (z_dec (zB_ok B) hd) (fun H1 locs1 hP1 hD1 hS1 => ?_)
  have e1 : (Sum.inr (ci, (fs.map (zv G)).set fk (zv G v)) : va_E) = ze G (.inr (ci, fs.set fk v)) := by simp only [ze, List.map_set]
  rw [e1, zws_set g1 g2] at hP1
  refine zW_size (fun hsz => ?_)
  exact kk p e R s m args below meth c n0 u0 B h1 h2 H1 locs1 ls (z_putEnd B h1 hR g1 g2 hP1 hS1 hsz) hS1.2.2 hlv
/-! arrays -/
theorem z_iald {a j N : Nat} {f : Nat → Int32} (k : Nat) (hd : (mI M)[k]? = some (pc, .iaload, 1)) (hp : pc + 1 = pc') (hm : μ a = .inl (0, N, .inl f)) (hj : j < N) (hN : N < 2 ^ 31) (kk : zW G d M pc' lv (.int (f j) :: st) n u μ nF uF Φ) : zW G d M pc lv (.int (nI j) :: .ref a :: st) n u μ nF uF Φ := by
  subst hp
  intro p e R s m args below meth c n0 u0 B h1 h2 H locs ls hR hl hlv
  obtain ⟨g1, g2⟩ := zR_in hR hm (by show (0 : Nat) ≠ 7; decide)
  have he := zws_at (G := G) (n := n) (μ := μ) g1 g2
  rw [hm] at he
  refine va_iald B.1 B.2.1 (zB_K B) hR.2.2.1 (a - 4) 0 he rfl (vp_in_nI hj hN) (z_dec (zB_ok B) hd) ?_
  rw [nI_clamp (by omega)]
  exact kk p e R s m args below meth c n0 u0 B h1 h2 H locs ls hR hl hlv
theorem z_iast {a j N : Nat} {f : Nat → Int32} {x : Int32} (k : Nat) (hd : (mI M)[k]? = some (pc, .iastore, 1)) (hp : pc + 1 = pc') (hm : μ a = .inl (0, N, .inl f)) (hj : j < N) (hN : N < 2 ^ 31) (kk : zW G d M pc' lv st n u (zu μ a (.inl (0, N, .inl (upd f j x)))) nF uF Φ) : zW G d M pc lv (.int x :: .int (nI j) :: .ref a :: st) n u μ nF uF Φ := by
  subst hp
  intro p e R s m args below meth c n0 u0 B h1 h2 H locs ls hR hl hlv
  obtain ⟨g1, g2⟩ := zR_in hR hm (by show (0 : Nat) ≠ 7; decide)
  have he := zws_at (G := G) (n := n) (μ := μ) g1 g2
  rw [hm] at he
  refine va_iast B.1 B.2.1 (zB_K B) hR.2.2.1 zws_D (z_S B h1 hR hl) (a - 4) 0 he rfl (vp_in_nI hj hN) (z_dec (zB_ok B) hd) (fun H1 locs1 hP1 hD1 hS1 => ?_)
  rw [nI_clamp (by omega)] at hP1
  rw [show (Sum.inl (zA G 0, N, Sum.inl (upd f j x)) : va_E) = ze G (.inl (0, N, .inl (upd f j x))) from rfl, zws_set g1 g2] at hP1
  refine zW_size (fun hsz => ?_)
  exact kk p e R s m args below meth c n0 u0 B h1 h2 H1 locs1 ls (z_putEnd B h1 hR g1 g2 hP1 hS1 hsz) hS1.2.2 hlv
theorem z_lald {a j N : Nat} {f : Nat → Int64} (k : Nat) (hd : (mI M)[k]? = some (pc, .laload, 1)) (hp : pc + 1 = pc') (hm : μ a = .inl (2, N, .inr (.inl f))) (hj : j < N) (hN : N < 2 ^ 31) (kk : zW G d M pc' lv (.long (f j) :: st) n u μ nF uF Φ) : zW G d M pc lv (.int (nI j) :: .ref a :: st) n u μ nF uF Φ := by
  subst hp
  intro p e R s m args below meth c n0 u0 B h1 h2 H locs ls hR hl hlv
  obtain ⟨g1, g2⟩ := zR_in hR hm (by show (2 : Nat) ≠ 7; decide)
  have he := zws_at (G := G) (n := n) (μ := μ) g1 g2
  rw [hm] at he
  refine va_lald B.1 B.2.1 (zB_K B) hR.2.2.1 (a - 4) 2 he rfl (vp_in_nI hj hN) (z_dec (zB_ok B) hd) ?_
  rw [nI_clamp (by omega)]
  exact kk p e R s m args below meth c n0 u0 B h1 h2 H locs ls hR hl hlv
theorem z_last {a j N : Nat} {f : Nat → Int64} {x : Int64} (k : Nat) (hd : (mI M)[k]? = some (pc, .lastore, 1)) (hp : pc + 1 = pc') (hm : μ a = .inl (2, N, .inr (.inl f))) (hj : j < N) (hN : N < 2 ^ 31) (kk : zW G d M pc' lv st n u (zu μ a (.inl (2, N, .inr (.inl (vp_updL f j x))))) nF uF Φ) : zW G d M pc lv (.long x :: .int (nI j) :: .ref a :: st) n u μ nF uF Φ := by
  subst hp
  intro p e R s m args below meth c n0 u0 B h1 h2 H locs ls hR hl hlv
  obtain ⟨g1, g2⟩ := zR_in hR hm (by show (2 : Nat) ≠ 7; decide)
  have he := zws_at (G := G) (n := n) (μ := μ) g1 g2
  rw [hm] at he
  refine va_last B.1 B.2.1 (zB_K B) hR.2.2.1 zws_D (z_S B h1 hR hl) (a - 4) 2 he rfl (vp_in_nI hj hN) (z_dec (zB_ok B) hd) (fun H1 locs1 hP1 hD1 hS1 => ?_)
  rw [nI_clamp (by omega)] at hP1
  rw [show (Sum.inl (zA G 2, N, Sum.inr (Sum.inl (vp_updL f j x))) : va_E) = ze G (.inl (2, N, .inr (.inl (vp_updL f j x)))) from rfl, zws_set g1 g2] at hP1
  refine zW_size (fun hsz => ?_)
  exact kk p e R s m args below meth c n0 u0 B h1 h2 H1 locs1 ls (z_putEnd B h1 hR g1 g2 hP1 hS1 hsz) hS1.2.2 hlv
theorem z_zald {a j N : Nat} {f : Nat → Int32} (k : Nat) (hd : (mI M)[k]? = some (pc, .baload, 1)) (hp : pc + 1 = pc') (hm : μ a = .inl (1, N, .inl f)) (hj : j < N) (hN : N < 2 ^ 31) (kk : zW G d M pc' lv (.int (f j) :: st) n u μ nF uF Φ) : zW G d M pc lv (.int (nI j) :: .ref a :: st) n u μ nF uF Φ := by
  subst hp
  intro p e R s m args below meth c n0 u0 B h1 h2 H locs ls hR hl hlv
  obtain ⟨g1, g2⟩ := zR_in hR hm (by show (1 : Nat) ≠ 7; decide)
  have he := zws_at (G := G) (n := n) (μ := μ) g1 g2
  rw [hm] at he
  refine va_zald B.1 B.2.1 (zB_K B) hR.2.2.1 (a - 4) 1 he rfl (vp_in_nI hj hN) (z_dec (zB_ok B) hd) ?_
  rw [nI_clamp (by omega)]
  exact kk p e R s m args below meth c n0 u0 B h1 h2 H locs ls hR hl hlv
theorem z_zast {a j N : Nat} {f : Nat → Int32} {x : Int32} (k : Nat) (hd : (mI M)[k]? = some (pc, .bastore, 1)) (hp : pc + 1 = pc') (hm : μ a = .inl (1, N, .inl f)) (hj : j < N) (hN : N < 2 ^ 31) (hx : narrow .boolean (.int x) = .int x) (kk : zW G d M pc' lv st n u (zu μ a (.inl (1, N, .inl (upd f j x)))) nF uF Φ) : zW G d M pc lv (.int x :: .int (nI j) :: .ref a :: st) n u μ nF uF Φ := by
  subst hp
  intro p e R s m args below meth c n0 u0 B h1 h2 H locs ls hR hl hlv
  obtain ⟨g1, g2⟩ := zR_in hR hm (by show (1 : Nat) ≠ 7; decide)
  have he := zws_at (G := G) (n := n) (μ := μ) g1 g2
  rw [hm] at he
  refine va_zast B.1 B.2.1 (zB_K B) hR.2.2.1 zws_D (z_S B h1 hR hl) (a - 4) 1 he rfl (vp_in_nI hj hN) (z_dec (zB_ok B) hd) (fun H1 locs1 hP1 hD1 hS1 => ?_)
  have hnar : vp_nar .boolean x = x := by unfold vp_nar; rw [hx]
  rw [nI_clamp (by omega), hnar] at hP1
  rw [show (Sum.inl (zA G 1, N, Sum.inl (upd f j x)) : va_E) = ze G (.inl (1, N, .inl (upd f j x))) from rfl, zws_set g1 g2] at hP1
  refine zW_size (fun hsz => ?_)
  exact kk p e R s m args below meth c n0 u0 B h1 h2 H1 locs1 ls (z_putEnd B h1 hR g1 g2 hP1 hS1 hsz) hS1.2.2 hlv
theorem z_aald {a j N b : Nat} {f : Nat → Option Nat} (k : Nat) (hd : (mI M)[k]? = some (pc, .aaload, 1)) (hp : pc + 1 = pc') (hm : μ a = .inl (3, N, .inr (.inr (.inr (.inr f))))) (hj : j < N) (hN : N < 2 ^ 31) (hf : f j = some b) (kk : zW G d M pc' lv (.ref b :: st) n u μ nF uF Φ) : zW G d M pc lv (.int (nI j) :: .ref a :: st) n u μ nF uF Φ := by
  subst hp
  intro p e R s m args below meth c n0 u0 B h1 h2 H locs ls hR hl hlv
  obtain ⟨g1, g2⟩ := zR_in hR hm (by show (3 : Nat) ≠ 7; decide)
  have he := zws_at (G := G) (n := n) (μ := μ) g1 g2
  rw [hm] at he
  refine va_aldq B.1 B.2.1 (zB_K B) hR.2.2.1 (a - 4) 3 he rfl (vp_in_nI hj hN) (z_dec (zB_ok B) hd) ?_
  rw [nI_clamp (by omega), hf]
  exact kk p e R s m args below meth c n0 u0 B h1 h2 H locs ls hR hl hlv
theorem z_aast {a j N b : Nat} {fs : List Value} {f : Nat → Option Nat} (k : Nat) (hd : (mI M)[k]? = some (pc, .aastore, 1)) (hp : pc + 1 = pc') (hm : μ a = .inl (3, N, .inr (.inr (.inr (.inr f))))) (hb : μ b = .inr (4, fs)) (hj : j < N) (hN : N < 2 ^ 31) (kk : zW G d M pc' lv st n u (zu μ a (.inl (3, N, .inr (.inr (.inr (.inr (va_up f j (some b)))))))) nF uF Φ) : zW G d M pc lv (.ref b :: .int (nI j) :: .ref a :: st) n u μ nF uF Φ := by
  subst hp
  intro p e R s m args below meth c n0 u0 B h1 h2 H locs ls hR hl hlv
  obtain ⟨g1, g2⟩ := zR_in hR hm (by show (3 : Nat) ≠ 7; decide)
  obtain ⟨g3, g4⟩ := zR_in hR hb (by show (4 : Nat) ≠ 99; decide)
  have he := zws_at (G := G) (n := n) (μ := μ) g1 g2
  have he2 := zws_at (G := G) (n := n) (μ := μ) g3 g4
  rw [hm] at he
  rw [hb] at he2
  refine va_astq (r := (R_Cr, F_Cr, 5)) B.1 B.2.1 (zB_K B) hR.2.2.1 zws_D (z_S B h1 hR hl) (a - 4) 3 (b - 4) 4 he rfl he2 rfl (vp_in_nI hj hN) (z_dec (zB_ok B) hd) (fun H1 locs1 hP1 hD1 hS1 => ?_)
  rw [nI_clamp (by omega)] at hP1
  have e1 : va_up (fun j => (f j).map (za G)) j (some (za G b)) = fun i => (va_up f j (some b) i).map (za G) := by
    funext i
    unfold va_up
    by_cases hi : i = j
    · rw [if_pos hi, if_pos hi]; rfl
    · rw [if_neg hi, if_neg hi]
  rw [e1] at hP1
  rw [show (Sum.inl (zA G 3, N, Sum.inr (Sum.inr (Sum.inr (Sum.inr (fun i => (va_up f j (some b) i).map (za G)))))) : va_E) = ze G (.inl (3, N, .inr (.inr (.inr (.inr (va_up f j (some b))))))) from rfl, zws_set g1 g2] at hP1
  refine zW_size (fun hsz => ?_)
  exact kk p e R s m args below meth c n0 u0 B h1 h2 H1 locs1 ls (z_putEnd B h1 hR g1 g2 hP1 hS1 hsz) hS1.2.2 hlv
theorem z_alen {a N kd : Nat} {f : Nat → Int32} (k : Nat) (hd : (mI M)[k]? = some (pc, .arraylength, 1)) (hp : pc + 1 = pc') (hm : μ a = .inl (0, N, .inl f)) (kk : zW G d M pc' lv (.int (nI N) :: st) n u μ nF uF Φ) : zW G d M pc lv (.ref a :: st) n u μ nF uF Φ := by
  subst hp
  intro p e R s m args below meth c n0 u0 B h1 h2 H locs ls hR hl hlv
  obtain ⟨g1, g2⟩ := zR_in hR hm (by show (0 : Nat) ≠ 7; decide)
  have he := zws_at (G := G) (n := n) (μ := μ) g1 g2
  rw [hm] at he
  exact va_alen B.1 B.2.1 (zB_K B) hR.2.2.1 (a - 4) 0 he rfl rfl (z_dec (zB_ok B) hd) (kk p e R s m args below meth c n0 u0 B h1 h2 H locs ls hR hl hlv)
/-! the constant arrays -/
theorem z_const {s : State} {args : Array Value} {p : Program} {R : Room} {m : MethodId} {meth : Method} {c : Code} {n0 u0 : Nat} (B : zB G d M p R s m args meth c n0 u0 nF uF) {H : Heap} (hR : zR G H n μ) {a N : Nat} {f : Nat → Int32} (ha : a < 4) (hm : μ a = .inl (7, N, .inl f)) : va_T .int (za G a) N (fun j => .int (f j)) (zQ G) s s.heap := by
  have e := hR.2.2.2.2.2 a ha
  rw [hm] at e
  obtain ⟨-, -, -, -, -, o6, o7, o8, -, -, -, -, o13⟩ := zB_O B
  have hkept : ∀ q : Nat, q < (zH G).size → ¬ zQ G q → s.heap[q]? = (zH G)[q]? := fun q _ hq => zB_low B q (Nat.lt_of_not_le hq)
  have hza : za G a = zsp G a := by simp only [za]; rw [if_pos ha]
  rw [hza]
  match a, ha with
  | 0, _ => simp only [zspec, Sum.inl.injEq, Prod.mk.injEq] at e; obtain ⟨-, rfl, rfl⟩ := e; exact o6.kept hkept
  | 1, _ => simp only [zspec, Sum.inl.injEq, Prod.mk.injEq] at e; obtain ⟨-, rfl, rfl⟩ := e; exact o7.kept hkept
  | 2, _ => simp only [zspec, Sum.inl.injEq, Prod.mk.injEq] at e; obtain ⟨-, rfl, rfl⟩ := e; exact o8.kept hkept
  | 3, _ => simp [zspec, zdead] at e
theorem z_iald7 {a j N : Nat} {f : Nat → Int32} (k : Nat) (hd : (mI M)[k]? = some (pc, .iaload, 1)) (hp : pc + 1 = pc') (ha : a < 4) (hm : μ a = .inl (7, N, .inl f)) (hj : j < N) (hN : N < 2 ^ 31) (kk : zW G d M pc' lv (.int (f j) :: st) n u μ nF uF Φ) : zW G d M pc lv (.int (nI j) :: .ref a :: st) n u μ nF uF Φ := by
  subst hp
  intro p e R s m args below meth c n0 u0 B h1 h2 H locs ls hR hl hlv
  refine va_ti B.1 B.2.1 (z_const B hR ha hm) (z_S B h1 hR hl) (vp_in_nI hj hN) rfl (z_dec (zB_ok B) hd) ?_
  rw [nI_clamp (by omega)]
  exact kk p e R s m args below meth c n0 u0 B h1 h2 H locs ls hR hl hlv
theorem z_alen7 {a N : Nat} {f : Nat → Int32} (k : Nat) (hd : (mI M)[k]? = some (pc, .arraylength, 1)) (hp : pc + 1 = pc') (ha : a < 4) (hm : μ a = .inl (7, N, .inl f)) (kk : zW G d M pc' lv (.int (nI N) :: st) n u μ nF uF Φ) : zW G d M pc lv (.ref a :: st) n u μ nF uF Φ := by
  subst hp
  intro p e R s m args below meth c n0 u0 B h1 h2 H locs ls hR hl hlv
  exact va_tlen B.1 B.2.1 (z_const B hR ha hm) (z_S B h1 hR hl) rfl (z_dec (zB_ok B) hd) (kk p e R s m args below meth c n0 u0 B h1 h2 H locs ls hR hl hlv)
theorem z_getsL {idx : Nat} (k : Nat) (hd : (mI M)[k]? = some (pc, .getstatic idx, 3)) (hp : pc + 3 = pc') (hlk : Cond.fieldLink (mO M) idx "WindBrides" "LINEAGE" "[I" ∈ zT) (kk : zW G d M pc' lv (.ref 0 :: st) n u μ nF uF Φ) : zW G d M pc lv st n u μ nF uF Φ := by
  subst hp
  intro p e R s m args below meth c n0 u0 B h1 h2 H locs ls hR hl hlv
  obtain ⟨-, -, -, o4, -⟩ := zB_O B
  exact va_gets B.1 B.2.1 (o4.kept (fun q _ hq => zB_low B q (Nat.lt_of_not_le hq))) (z_S B h1 hR hl) (zB_own B) (zB_T B _ hlk) (fun _ h => h) (z_dec (zB_ok B) hd) (kk p e R s m args below meth c n0 u0 B h1 h2 H locs ls hR hl hlv)
theorem z_getsN {idx : Nat} (k : Nat) (hd : (mI M)[k]? = some (pc, .getstatic idx, 3)) (hp : pc + 3 = pc') (hlk : Cond.fieldLink (mO M) idx "WindBridesModel" "NAMES" "[I" ∈ zT) (kk : zW G d M pc' lv (.ref 1 :: st) n u μ nF uF Φ) : zW G d M pc lv st n u μ nF uF Φ := by
  subst hp
  intro p e R s m args below meth c n0 u0 B h1 h2 H locs ls hR hl hlv
  obtain ⟨-, -, -, -, o5, -⟩ := zB_O B
  exact va_gets B.1 B.2.1 (o5.kept (fun q _ hq => zB_low B q (Nat.lt_of_not_le hq))) (z_S B h1 hR hl) (zB_own B) (zB_T B _ hlk) (fun _ h => h) (z_dec (zB_ok B) hd) (kk p e R s m args below meth c n0 u0 B h1 h2 H locs ls hR hl hlv)
end ZH
