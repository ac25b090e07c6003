/-! ===== the plain machine: references are numbers of cells (0 LINEAGE, 1 NAMES, 2 the script, 3 the words' text, from 4 on what was made), the heap is a function ===== -/
abbrev zG : Type := Launch × Nat × (Nat → Nat) × va_G × (Nat → ClassId) × Heap × Nat × (Nat → Int32)
abbrev zl (G : zG) : Launch := G.1
abbrev zb (G : zG) : Nat := G.2.1
abbrev zsp (G : zG) : Nat → Nat := G.2.2.1
abbrev zD (G : zG) : va_G := G.2.2.2.1
abbrev zA (G : zG) : Nat → ClassId := G.2.2.2.2.1
abbrev zH (G : zG) : Heap := G.2.2.2.2.2.1
abbrev zL (G : zG) : Nat := G.2.2.2.2.2.2.1
abbrev zX (G : zG) : Nat → Int32 := G.2.2.2.2.2.2.2
abbrev zQ (G : zG) : Nat → Prop := fun q => zb G ≤ q
def za (G : zG) (i : Nat) : Nat := if i < 4 then zsp G i else zb G + (i - 4)
def zv (G : zG) : Value → Value
  | .ref i => .ref (za G i)
  | v => v
def ze (G : zG) : va_E → va_E
  | .inl (k, n, .inr (.inr (.inr (.inr f)))) => .inl (zA G k, n, .inr (.inr (.inr (.inr (fun j => (f j).map (za G))))))
  | .inl (k, a) => .inl (zA G k, a)
  | .inr (ci, fs) => .inr (ci, fs.map (zv G))
def zdead : va_E := .inr (99, [])
def zLin : List Int32 := [1, 3, 5, 13, 17, 49]
def zNam : List Int32 := [103, 105, 114, 108, 0, 0, 115, 104, 97, 114, 101, 100, 98, 114, 101, 100, 0, 0, 116, 119, 105, 99, 101, 0, 108, 97, 116, 101, 0, 0, 99, 97, 108, 109, 0, 0, 119, 97, 105, 116, 0, 0, 116, 117, 114, 110, 0, 0, 108, 101, 97, 118, 101, 0, 109, 111, 110, 116, 104, 0, 102, 97, 105, 116, 104, 0, 100, 111, 119, 114, 121, 0, 104, 111, 117, 115, 101, 0, 110, 117, 109, 98, 101, 114, 105, 102, 0, 0, 0, 0, 111, 114, 0, 0, 0, 0, 97, 110, 100, 0, 0, 0, 110, 111, 116, 0, 0, 0]
def zWords : String := "girl   shared bred   twice  late   calm   wait   turn   leave  if     or     and    not    month  faith  dowry  house  number "
def zWordB : List Int32 := zWords.toList.map (fun ch => Int32.ofNat ch.toNat)
def zspec (G : zG) : Nat → va_E
  | 0 => .inl (7, 6, .inl (fun j => zLin.getD j 0))
  | 1 => .inl (7, 108, .inl (fun j => zNam.getD j 0))
  | 2 => .inl (7, zL G, .inl (zX G))
  | _ => zdead
def zws (G : zG) (n : Nat) (μ : Nat → va_E) : va_W := (List.range (n - 4)).map (fun j => (zb G + j, ze G (μ (j + 4))))
def ztys (G : zG) : List (ClassId × FieldType) := [(zA G 0, .int), (zA G 1, .boolean), (zA G 2, .long), (zA G 3, .object "WindBrides$Course")]
/-- the heap H is what the plain heap μ of n cells says -/
def zR (G : zG) (H : Heap) (n : Nat) (μ : Nat → va_E) : Prop := 4 ≤ n ∧ H.size = zb G + (n - 4) ∧ va_P (zD G) zCl (zws G n μ) H ∧ (∀ q, q < zb G → H[q]? = (zH G)[q]?) ∧ (∀ i, n ≤ i → μ i = zdead) ∧ ∀ i, i < 4 → μ i = zspec G i
def zisN : Cond → Bool
  | .methodLinkNest .. => true
  | .declares _ => true
  | _ => false
def zNW : List Cond := lw_tbl.filter zisN
/-- what is known of the classes, the statics, the constants at every state of the run -/
def zO (G : zG) (U : State) : Prop := va_K (zD G) zCl (ztys G) U ∧ (∀ w ∈ zNW, va_Nw w U) ∧ va_AO "WindBrides$Course" U ∧
  va_Z "WindBrides" "LINEAGE" "[I" (.ref (zsp G 0)) (zQ G) U (zH G) ∧ va_Z "WindBridesModel" "NAMES" "[I" (.ref (zsp G 1)) (zQ G) U (zH G) ∧
  va_T .int (zsp G 0) 6 (fun j => .int (zLin.getD j 0)) (zQ G) U (zH G) ∧ va_T .int (zsp G 1) 108 (fun j => .int (zNam.getD j 0)) (zQ G) U (zH G) ∧ va_T .int (zsp G 2) (zL G) (fun j => .int (zX G j)) (zQ G) U (zH G) ∧
  vk_R "WindBrides$Tape" 68 zWords (zsp G 3) U ∧ (∃ adV : Nat, vk_S 1 [126] [zWordB] (fun _ => zsp G 3) (fun _ => adV) (zQ G) U (zH G)) ∧ va_Z "java/lang/String" "COMPACT_STRINGS" "Z" (.int 1) (zQ G) U (zH G) ∧ va_Zq "jdk/internal/util/Preconditions" "SIOOBE_FORMATTER" "Ljava/util/function/BiFunction;" (zQ G) U (zH G) ∧ (zH G).size = zb G
theorem zO_warm {G : zG} {s U : State} (hW : s.WarmedH U.vm) (h : zO G s) : zO G U := by
  obtain ⟨h1, h2, h3, h4, h5, h6, h7, h8, h9, ⟨adV, h10⟩, h11, h12, h13⟩ := h
  have ha := hW.alike
  refine ⟨va_K.moved ha h1, fun w hw => ?_, va_AO.moved ha h3, h4.moved ha, h5.moved ha, h6.moved ha, h7.moved ha, h8.moved ha, h9.warm hW, ⟨adV, h10.moved ha⟩, h11.moved ha, h12.moved ha, h13⟩
  have h0 := h2 w hw
  have hn : zisN w = true := (List.mem_filter.mp hw).2
  cases w <;> first | (simp [zisN] at hn; done) | exact h0.warmM hW | exact h0.warmD hW
theorem zO_same {G : zG} {u U : State} (hv : U.vm = u.vm) (h : zO G u) : zO G U := by
  obtain ⟨h1, h2, h3, h4, h5, h6, h7, h8, h9, ⟨adV, h10⟩, h11, h12, h13⟩ := h
  have ha : u.vm.Alike U.vm := by rw [hv]; exact Vm.Alike.refl _
  refine ⟨va_K.moved ha h1, fun w hw => ?_, va_AO.moved ha h3, h4.moved ha, h5.moved ha, h6.moved ha, h7.moved ha, h8.moved ha, h9.same hv, ⟨adV, h10.moved ha⟩, h11.moved ha, h12.moved ha, h13⟩
  have h0 := h2 w hw
  have hn : zisN w = true := (List.mem_filter.mp hw).2
  cases w <;> first | (simp [zisN] at hn; done) | exact va_Nw.same rfl hv.symm h0
/-! locals by place; .retAddr stands for a place that isn't known -/
def zj : Value → Bool
  | .retAddr _ => true
  | _ => false
def zal (G : zG) : Nat → List Value → List (Nat × Value)
  | _, [] => []
  | j, v :: t => if zj v = true then zal G (j + 1) t else (j, zv G v) :: zal G (j + 1) t
theorem zal_mem {G : zG} : ∀ (lv : List Value) (j : Nat) (q : Nat × Value), q ∈ zal G j lv ↔ ∃ (k : Nat) (v : Value), lv[k]? = some v ∧ zj v = false ∧ q = (j + k, zv G v)
  | [], j, q => by simp [zal]
  | v :: t, j, q => by
    have ih := zal_mem (G := G) t (j + 1) q
    unfold zal
    by_cases hv : zj v = true
    · rw [if_pos hv, ih]
      constructor
      · rintro ⟨k, w, h1, h2, h3⟩
        exact ⟨k + 1, w, by simpa using h1, h2, by rw [h3]; congr 1; omega⟩
      · rintro ⟨k, w, h1, h2, h3⟩
        cases k with
        | zero => simp at h1; subst h1; rw [hv] at h2; cases h2
        | succ k => exact ⟨k, w, by simpa using h1, h2, by rw [h3]; congr 1; omega⟩
    · rw [if_neg hv, List.mem_cons, ih]
      constructor
      · rintro (h | ⟨k, w, h1, h2, h3⟩)
        · exact ⟨0, v, by simp, by simpa using hv, by rw [h]; rfl⟩
        · exact ⟨k + 1, w, by simpa using h1, h2, by rw [h3]; congr 1; omega⟩
      · rintro ⟨k, w, h1, h2, h3⟩
        cases k with
        | zero => simp at h1; subst h1; exact Or.inl (by rw [h3]; rfl)
        | succ k => exact Or.inr ⟨k, w, by simpa using h1, h2, by rw [h3]; congr 1; omega⟩
abbrev zlv (G : zG) (ls : Array Slot) (nL : Nat) (lv : List Value) : Prop := lv_has ls nL (zal G 0 lv)
theorem zlv_at {G : zG} {ls : Array Slot} {nL : Nat} {lv : List Value} (h : zlv G ls nL lv) {i : Nat} {v : Value} (hi : lv[i]? = some v) (hj : zj v = false) : ls[i]? = some (.val (zv G v)) := by
  have := h.2.2 (i, zv G v) ((zal_mem lv 0 _).mpr ⟨i, v, hi, hj, by simp⟩)
  exact this
def zst (lv : List Value) : Nat → Bool
  | 0 => true
  | k + 1 => match lv[k]? with
    | some v => v.category != 2
    | none => true
theorem zv_cat {G : zG} (v : Value) : (zv G v).category = v.category := by cases v <;> rfl
theorem zlv_set {G : zG} {ls' : Array Slot} {nL i : Nat} {lv : List Value} {v : Value} (h : lv_has ls' nL ((i, zv G v) :: (zal G 0 lv).filter (fun q => !(q.1 == i) && !(q.1 + 1 == i && q.2.category == 2)))) (hs : zst lv i = true) : zlv G ls' nL (lv.set i v) := by
  refine ⟨h.1, h.2.1, fun q hq => ?_⟩
  obtain ⟨k, w, h1, h2, h3⟩ := (zal_mem _ 0 q).mp hq
  rw [Nat.zero_add] at h3
  subst h3
  by_cases hk : k = i
  · subst hk
    have hlt : k < lv.length := by
      have := (List.getElem?_eq_some_iff.mp h1).1
      simpa using this
    rw [List.getElem?_set_self hlt] at h1
    cases h1
    exact h.2.2 _ List.mem_cons_self
  · rw [List.getElem?_set_ne (Ne.symm hk)] at h1
    refine h.2.2 _ (List.mem_cons_of_mem _ (List.mem_filter.mpr ⟨(zal_mem _ 0 _).mpr ⟨k, w, h1, h2, by simp⟩, ?_⟩))
    have e1 : (k == i) = false := by simpa using hk
    simp only [e1, Bool.not_false, Bool.true_and, Bool.not_eq_true']
    by_cases hk2 : k + 1 = i
    · subst hk2
      simp only [zst, h1] at hs
      simp only [zv_cat]
      simp at hs
      simp [hs]
    · simp [hk2]
theorem zlv_less {G : zG} {ls : Array Slot} {nL i : Nat} {lv : List Value} {a : Nat} (h : zlv G ls nL lv) : zlv G ls nL (lv.set i (.retAddr a)) := by
  refine ⟨h.1, h.2.1, fun q hq => ?_⟩
  obtain ⟨k, w, h1, h2, h3⟩ := (zal_mem _ 0 q).mp hq
  by_cases hk : k = i
  · subst hk
    have hlt : k < lv.length := by
      have := (List.getElem?_eq_some_iff.mp h1).1
      simpa using this
    rw [List.getElem?_set_self hlt] at h1
    cases h1
    cases h2
  · rw [List.getElem?_set_ne (Ne.symm hk)] at h1
    exact h.2.2 q ((zal_mem _ 0 q).mpr ⟨k, w, h1, h2, h3⟩)
/-! the heap: reading, writing, making -/
def zu (μ : Nat → va_E) (a : Nat) (c : va_E) : Nat → va_E := fun i => if i = a then c else μ i
theorem zws_at {G : zG} {n : Nat} {μ : Nat → va_E} {i : Nat} (h4 : 4 ≤ i) (hn : i < n) : (zws G n μ)[i - 4]? = some (za G i, ze G (μ i)) := by
  have h1 : i - 4 < n - 4 := by omega
  unfold zws
  rw [List.getElem?_map, List.getElem?_range h1]
  simp only [Option.map_some, za]
  rw [if_neg (by omega), show i - 4 + 4 = i by omega]
theorem zws_set {G : zG} {n : Nat} {μ : Nat → va_E} {i : Nat} {c : va_E} (h4 : 4 ≤ i) (hn : i < n) : (zws G n μ).set (i - 4) (za G i, ze G c) = zws G n (zu μ i c) := by
  apply List.ext_getElem?
  intro k
  by_cases hk : k = i - 4
  · subst hk
    have := zws_at (G := G) (n := n) (μ := zu μ i c) h4 hn
    rw [this, List.getElem?_set_self (by simp [zws]; omega)]
    simp [zu]
  · rw [List.getElem?_set_ne (Ne.symm hk)]
    unfold zws
    rw [List.getElem?_map, List.getElem?_map]
    by_cases hkn : k < n - 4
    · rw [List.getElem?_range hkn]
      simp only [Option.map_some, zu]
      rw [if_neg (by omega)]
    · rw [List.getElem?_eq_none (by simpa using hkn)]
      rfl
theorem zws_push {G : zG} {n : Nat} {μ : Nat → va_E} {c : va_E} (h4 : 4 ≤ n) : zws G n μ ++ [(zb G + (n - 4), ze G c)] = zws G (n + 1) (zu μ n c) := by
  unfold zws
  rw [show n + 1 - 4 = (n - 4) + 1 by omega, List.range_succ, List.map_append]
  congr 1
  · apply List.map_congr_left
    intro j hj
    have := List.mem_range.mp hj
    simp only [zu]
    rw [if_neg (by omega)]
  · simp only [List.map_cons, List.map_nil, zu]
    rw [if_pos (by omega)]
theorem zws_D {G : zG} {n : Nat} {μ : Nat → va_E} : va_D (zQ G) (zws G n μ) := by
  have key : ∀ (k : Nat) (q : Nat × va_E), (zws G n μ)[k]? = some q → q.1 = zb G + k := by
    intro k q hk
    unfold zws at hk
    rw [List.getElem?_map] at hk
    cases hr : (List.range (n - 4))[k]? with
    | none => rw [hr] at hk; cases hk
    | some j =>
      rw [hr] at hk
      obtain ⟨h1, h2⟩ := List.getElem?_eq_some_iff.mp hr
      rw [List.getElem_range] at h2
      cases hk
      rw [h2]
  refine ⟨fun i j p q hi hj hpq => ?_, fun k q hk => ?_⟩
  · have := key i p hi
    have := key j q hj
    omega
  · show zb G ≤ q.1
    rw [key k q hk]
    omega
theorem zR_lt {G : zG} {H : Heap} {n : Nat} {μ : Nat → va_E} (h : zR G H n μ) {a : Nat} (ha : μ a ≠ zdead) : a < n := by
  rcases Nat.lt_or_ge a n with q | q
  · exact q
  · exact absurd (h.2.2.2.2.1 a q) ha
/-- of an object, or of an array that isn't one of the constant ones: its place is 4 or above -/
theorem zR_in {G : zG} {H : Heap} {n : Nat} {μ : Nat → va_E} (h : zR G H n μ) {a : Nat} {c : va_E} (ha : μ a = c) (hc : match c with | .inl (k, _) => k ≠ 7 | .inr (ci, _) => ci ≠ 99) : 4 ≤ a ∧ a < n := by
  refine ⟨?_, zR_lt h (fun e => ?_)⟩
  · rcases Nat.lt_or_ge a 4 with q | q
    · have e := h.2.2.2.2.2 a q
      rw [ha] at e
      subst e
      exfalso
      match a, q with
      | 0, _ => exact hc rfl
      | 1, _ => exact hc rfl
      | 2, _ => exact hc rfl
      | 3, _ => exact hc rfl
    · exact q
  · rw [ha] at e
    subst e
    exact hc rfl
theorem zR_set {G : zG} {H H1 : Heap} {n : Nat} {μ : Nat → va_E} (h : zR G H n μ) {a : Nat} {c : va_E} (h4 : 4 ≤ a) (hn : a < n) (hP : va_P (zD G) zCl (zws G n (zu μ a c)) H1) (hs : H1.size = H.size) (hq : ∀ q, q < zb G → H1[q]? = H[q]?) : zR G H1 n (zu μ a c) :=
  ⟨h.1, hs.trans h.2.1, hP, fun q hl => (hq q hl).trans (h.2.2.2.1 q hl), fun i hi => by show (if i = a then c else μ i) = _; rw [if_neg (by omega)]; exact h.2.2.2.2.1 i hi, fun i hi => by show (if i = a then c else μ i) = _; rw [if_neg (by omega)]; exact h.2.2.2.2.2 i hi⟩
theorem zR_new {G : zG} {H H1 : Heap} {n : Nat} {μ : Nat → va_E} (h : zR G H n μ) {c : va_E} (hP : va_P (zD G) zCl (zws G (n + 1) (zu μ n c)) H1) (hs : H1.size = H.size + 1) (hq : ∀ q, q < zb G → H1[q]? = H[q]?) : zR G H1 (n + 1) (zu μ n c) :=
  ⟨by have := h.1; omega, by rw [hs, h.2.1]; have := h.1; omega, hP, fun q hl => (hq q hl).trans (h.2.2.2.1 q hl), fun i hi => by show (if i = n then c else μ i) = _; rw [if_neg (by omega)]; exact h.2.2.2.2.1 i (by omega), fun i hi => by have := h.1; show (if i = n then c else μ i) = _; rw [if_neg (by omega)]; exact h.2.2.2.2.2 i hi⟩
/-! ===== the two judgements ===== -/
def zRm (d mc ms : Nat) : Room := { frames := d, cells := mc, slots := ms, locals := 32 * d }
abbrev zwd (M : zM) : List Cond := Cond.code (mY M) (mC M) (mL M) (mR M) :: zT
def zPc (G : zG) (as : List Value) (n : Nat) (μ : Nat → va_E) : Array Value → State → Prop := va_Pc (as.map (zv G)) (fun U => zO G U ∧ zR G U.heap n μ)
/-- what a method comes to: an answer and a heap -/
abbrev zP : Type := Option Value → (Nat → va_E) → Prop
def zE (r : Option Value) (μ : Nat → va_E) : zP := fun r0 μ0 => r0 = r ∧ μ0 = μ
def zQc (G : zG) (Φ : zP) (n : Nat) : Array Value → State → Outcome → State → Prop := fun _ _ o t => ∃ (r : Option Value) (μ : Nat → va_E), o = .returned (r.map (zv G)) ∧ Φ r μ ∧ zR G t.heap n μ
/-- the method M, called with the values as, from the plain heap (n, u, μ), comes to an answer and a heap of n' cells and u' slots with Φ; d levels of calls are enough -/
def zMet (G : zG) (d : Nat) (M : zM) (as : List Value) (n u : Nat) (μ : Nat → va_E) (n' u' : Nat) (Φ : zP) : Prop :=
  n ≤ n' ∧ u ≤ u' ∧ Met (zl G) (mY M) (zwd M) (zRm d (n' - n) (u' - u)) (zPc G as n μ) (zQc G Φ n') (n' - n) (u' - u) (zQ G)
/-- what holds in the body of M -/
def zB (G : zG) (d : Nat) (M : zM) (p : Program) (R : Room) (s : State) (m : MethodId) (args : Array Value) (meth : Method) (c : Code) (n0 u0 nF uF : Nat) : Prop :=
  p.tables.exec = Jvm.exec ∧ c.code = mC M ∧ meth.sig.returnType = mR M ∧ c.maxLocals = mL M ∧ s.vm.findClass (mO M) = some m.cls ∧ (∀ w ∈ zT, w.before args s = true) ∧ zO G s ∧ meth.locks = false ∧ meth.name = (mY M).name ∧
  (∀ q, q < zb G → s.heap[q]? = (zH G)[q]?) ∧ s.heap.size = zb G + (n0 - 4) ∧ mOk M ∧ 4 ≤ n0 ∧ n0 ≤ nF ∧ u0 ≤ uF ∧ d ≤ R.frames ∧ 32 * d ≤ R.locals ∧ nF - n0 ≤ R.cells ∧ uF - u0 ≤ R.slots
/-- the body of M, at pc with the locals lv and the stack st, comes to its end with Φ and nF cells, uF slots -/
def zW (G : zG) (d : Nat) (M : zM) (pc : Nat) (lv st : List Value) (n u : Nat) (μ : Nat → va_E) (nF uF : Nat) (Φ : zP) : Prop :=
  ∀ (p : Program) (e : Env) (R : Room) (s : State) (m : MethodId) (args : Array Value) (below : List Frame) (meth : Method) (c : Code) (n0 u0 : Nat), zB G d M p R s m args meth c n0 u0 nF uF → n0 ≤ n → u0 ≤ u →
  ∀ (H : Heap) (locs : List Loc) (ls : Array Slot), zR G H n μ → (∀ q ∈ locs, zb G ≤ q.base) → zlv G ls (mL M) lv →
    W p (zl G) e R s m args below meth c H locs (n - n0) (u - u0) (MQ below (zQc G Φ nF) args s (nF - n0) (uF - u0) (zQ G)) (F0 m pc ls (st.map (zv G)))
/-! the heap as a list of cells from 4 on -/
def zmem (G : zG) (L : List va_E) : Nat → va_E := fun i => if i < 4 then zspec G i else L.getD (i - 4) zdead
theorem zmem_set {G : zG} {L : List va_E} {a : Nat} {c : va_E} (h4 : 4 ≤ a) (hl : a < L.length + 4) : zu (zmem G L) a c = zmem G (L.set (a - 4) c) := by
  funext i
  unfold zu zmem
  by_cases hi : i = a
  · subst hi
    rw [if_pos rfl, if_neg (by omega), List.getD_eq_getElem?_getD, List.getElem?_set_self (by omega)]
    rfl
  · rw [if_neg hi]
    by_cases h : i < 4
    · rw [if_pos h, if_pos h]
    · rw [if_neg h, if_neg h, List.getD_eq_getElem?_getD, List.getD_eq_getElem?_getD, List.getElem?_set_ne (by omega)]
theorem zmem_new {G : zG} {L : List va_E} {c : va_E} : zu (zmem G L) (L.length + 4) c = zmem G (L ++ [c]) := by
  funext i
  unfold zu zmem
  by_cases hi : i = L.length + 4
  · subst hi
    rw [if_pos rfl, if_neg (by omega), Nat.add_sub_cancel, List.getD_eq_getElem?_getD, List.getElem?_append_right (Nat.le_refl _), Nat.sub_self]
    rfl
  · rw [if_neg hi]
    by_cases h : i < 4
    · rw [if_pos h, if_pos h]
    · rw [if_neg h, if_neg h, List.getD_eq_getElem?_getD, List.getD_eq_getElem?_getD]
      rcases Nat.lt_or_ge (i - 4) L.length with q | q
      · rw [List.getElem?_append_left q]
      · rw [List.getElem?_eq_none q, List.getElem?_eq_none (by simp; omega)]
