section ZM
variable {G : zG} {d : Nat} {M : zM} {pc pc' : Nat} {lv st : List Value} {n u : Nat} {μ : Nat → va_E} {nF uF : Nat} {Φ : zP}
/-- a truth as a number -/
def zbo (c : Prop) [Decidable c] : Int32 := if c then nI 1 else nI 0
theorem zbo_t {c : Prop} [Decidable c] (h : c) : zbo c = nI 1 := if_pos h
theorem zbo_f {c : Prop} [Decidable c] (h : ¬ c) : zbo c = nI 0 := if_neg h
theorem zbo_0 {c : Prop} [Decidable c] : zbo c = 0 ↔ ¬ c := by
  unfold zbo
  by_cases h : c
  · rw [if_pos h]; exact ⟨fun e => absurd e (by decide), fun e => absurd h e⟩
  · rw [if_neg h]; exact ⟨fun _ => h, fun _ => rfl⟩
theorem zbo_nar {c : Prop} [Decidable c] : narrow .boolean (.int (zbo c)) = .int (zbo c) := by
  unfold zbo
  by_cases h : c
  · rw [if_pos h]; rfl
  · rw [if_neg h]; rfl
theorem zbo_fit {c : Prop} [Decidable c] : fits .boolean (.int (zbo c)) = true := by
  unfold zbo
  by_cases h : c
  · rw [if_pos h]; rfl
  · rw [if_neg h]; rfl
theorem zE_i {r : Option Value} {μ' : Nat → va_E} {v : Value} (h : some v = r) (h2 : μ = μ') : zE r μ' (some v) μ := ⟨h, h2⟩
theorem z_icmp_eqN {a b : Nat} {off : Int} {tgt : Nat} (k : Nat) (hd : (mI M)[k]? = some (pc, .if_icmp .eq off, 3)) (hp : pc + 3 = pc') (ht : (pc : Int) + off = (tgt : Int)) (ha : a < 2 ^ 31) (hb : b < 2 ^ 31) (kt : a = b → zW G d M tgt lv st n u μ nF uF Φ) (kf : a ≠ b → zW G d M pc' lv st n u μ nF uF Φ) : zW G d M pc lv (.int (nI b) :: .int (nI a) :: st) n u μ nF uF Φ :=
  z_icmp_eq k hd hp ht (fun h => kt ((nI_eq ha hb).mp h)) (fun h => kf (fun e => h (by rw [e])))
theorem z_icmp_neN {a b : Nat} {off : Int} {tgt : Nat} (k : Nat) (hd : (mI M)[k]? = some (pc, .if_icmp .ne off, 3)) (hp : pc + 3 = pc') (ht : (pc : Int) + off = (tgt : Int)) (ha : a < 2 ^ 31) (hb : b < 2 ^ 31) (kt : a ≠ b → zW G d M tgt lv st n u μ nF uF Φ) (kf : a = b → zW G d M pc' lv st n u μ nF uF Φ) : zW G d M pc lv (.int (nI b) :: .int (nI a) :: st) n u μ nF uF Φ :=
  z_icmp_ne k hd hp ht (fun h => kt (fun e => h (by rw [e]))) (fun h => kf ((nI_eq ha hb).mp h))
theorem z_icmp_ltN {a b : Nat} {off : Int} {tgt : Nat} (k : Nat) (hd : (mI M)[k]? = some (pc, .if_icmp .lt off, 3)) (hp : pc + 3 = pc') (ht : (pc : Int) + off = (tgt : Int)) (ha : a < 2 ^ 31) (hb : b < 2 ^ 31) (kt : a < b → zW G d M tgt lv st n u μ nF uF Φ) (kf : b ≤ a → zW G d M pc' lv st n u μ nF uF Φ) : zW G d M pc lv (.int (nI b) :: .int (nI a) :: st) n u μ nF uF Φ :=
  z_icmp_lt k hd hp ht (fun h => kt ((nI_ltI ha hb).mp h)) (fun h => kf (Nat.le_of_not_lt (fun e => h ((nI_ltI ha hb).mpr e))))
theorem z_icmp_geN {a b : Nat} {off : Int} {tgt : Nat} (k : Nat) (hd : (mI M)[k]? = some (pc, .if_icmp .ge off, 3)) (hp : pc + 3 = pc') (ht : (pc : Int) + off = (tgt : Int)) (ha : a < 2 ^ 31) (hb : b < 2 ^ 31) (kt : b ≤ a → zW G d M tgt lv st n u μ nF uF Φ) (kf : a < b → zW G d M pc' lv st n u μ nF uF Φ) : zW G d M pc lv (.int (nI b) :: .int (nI a) :: st) n u μ nF uF Φ :=
  z_icmp_ge k hd hp ht (fun h => kt ((nI_leI hb ha).mp h)) (fun h => kf (Nat.lt_of_not_le (fun e => h ((nI_leI hb ha).mpr e))))
theorem z_icmp_gtN {a b : Nat} {off : Int} {tgt : Nat} (k : Nat) (hd : (mI M)[k]? = some (pc, .if_icmp .gt off, 3)) (hp : pc + 3 = pc') (ht : (pc : Int) + off = (tgt : Int)) (ha : a < 2 ^ 31) (hb : b < 2 ^ 31) (kt : b < a → zW G d M tgt lv st n u μ nF uF Φ) (kf : a ≤ b → zW G d M pc' lv st n u μ nF uF Φ) : zW G d M pc lv (.int (nI b) :: .int (nI a) :: st) n u μ nF uF Φ :=
  z_icmp_gt k hd hp ht (fun h => kt ((nI_ltI hb ha).mp h)) (fun h => kf (Nat.le_of_not_lt (fun e => h ((nI_ltI hb ha).mpr e))))
theorem z_icmp_leN {a b : Nat} {off : Int} {tgt : Nat} (k : Nat) (hd : (mI M)[k]? = some (pc, .if_icmp .le off, 3)) (hp : pc + 3 = pc') (ht : (pc : Int) + off = (tgt : Int)) (ha : a < 2 ^ 31) (hb : b < 2 ^ 31) (kt : a ≤ b → zW G d M tgt lv st n u μ nF uF Φ) (kf : b < a → zW G d M pc' lv st n u μ nF uF Φ) : zW G d M pc lv (.int (nI b) :: .int (nI a) :: st) n u μ nF uF Φ :=
  z_icmp_le k hd hp ht (fun h => kt ((nI_leI ha hb).mp h)) (fun h => kf (Nat.lt_of_not_le (fun e => h ((nI_leI ha hb).mpr e))))
theorem z_if_eqN {a : Nat} {off : Int} {tgt : Nat} (k : Nat) (hd : (mI M)[k]? = some (pc, .ifCond .eq off, 3)) (hp : pc + 3 = pc') (ht : (pc : Int) + off = (tgt : Int)) (ha : a < 2 ^ 31) (kt : a = 0 → zW G d M tgt lv st n u μ nF uF Φ) (kf : a ≠ 0 → zW G d M pc' lv st n u μ nF uF Φ) : zW G d M pc lv (.int (nI a) :: st) n u μ nF uF Φ :=
  z_if_eq k hd hp ht (fun h => kt ((nI_eq ha (by decide)).mp (h.trans nI_0.symm))) (fun h => kf (fun e => h (by rw [e]; rfl)))
theorem z_if_neN {a : Nat} {off : Int} {tgt : Nat} (k : Nat) (hd : (mI M)[k]? = some (pc, .ifCond .ne off, 3)) (hp : pc + 3 = pc') (ht : (pc : Int) + off = (tgt : Int)) (ha : a < 2 ^ 31) (kt : a ≠ 0 → zW G d M tgt lv st n u μ nF uF Φ) (kf : a = 0 → zW G d M pc' lv st n u μ nF uF Φ) : zW G d M pc lv (.int (nI a) :: st) n u μ nF uF Φ :=
  z_if_ne k hd hp ht (fun h => kt (fun e => h (by rw [e]; rfl))) (fun h => kf ((nI_eq ha (by decide)).mp (h.trans nI_0.symm)))
theorem z_if_gtN {a : Nat} {off : Int} {tgt : Nat} (k : Nat) (hd : (mI M)[k]? = some (pc, .ifCond .gt off, 3)) (hp : pc + 3 = pc') (ht : (pc : Int) + off = (tgt : Int)) (ha : a < 2 ^ 31) (kt : 0 < a → zW G d M tgt lv st n u μ nF uF Φ) (kf : a = 0 → zW G d M pc' lv st n u μ nF uF Φ) : zW G d M pc lv (.int (nI a) :: st) n u μ nF uF Φ :=
  z_if_gt k hd hp ht (fun h => kt ((nI_ltI (a := 0) (by decide) ha).mp h)) (fun h => kf (Nat.eq_zero_of_not_pos (fun e => h ((nI_ltI (a := 0) (by decide) ha).mpr e))))
theorem z_if_leN {a : Nat} {off : Int} {tgt : Nat} (k : Nat) (hd : (mI M)[k]? = some (pc, .ifCond .le off, 3)) (hp : pc + 3 = pc') (ht : (pc : Int) + off = (tgt : Int)) (ha : a < 2 ^ 31) (kt : a = 0 → zW G d M tgt lv st n u μ nF uF Φ) (kf : 0 < a → zW G d M pc' lv st n u μ nF uF Φ) : zW G d M pc lv (.int (nI a) :: st) n u μ nF uF Φ :=
  z_if_le k hd hp ht (fun h => kt (Nat.le_zero.mp ((nI_leI ha (b := 0) (by decide)).mp h))) (fun h => kf (Nat.pos_of_ne_zero (fun e => h (by rw [e]; decide))))
theorem z_if_ltN {a : Nat} {off : Int} {tgt : Nat} (k : Nat) (hd : (mI M)[k]? = some (pc, .ifCond .lt off, 3)) (hp : pc + 3 = pc') (ht : (pc : Int) + off = (tgt : Int)) (ha : a < 2 ^ 31) (kt : False → zW G d M tgt lv st n u μ nF uF Φ) (kf : True → zW G d M pc' lv st n u μ nF uF Φ) : zW G d M pc lv (.int (nI a) :: st) n u μ nF uF Φ :=
  z_if_lt k hd hp ht (fun h => kt (nI_pos ha h)) (fun h => kf (trivial))
theorem z_if_geN {a : Nat} {off : Int} {tgt : Nat} (k : Nat) (hd : (mI M)[k]? = some (pc, .ifCond .ge off, 3)) (hp : pc + 3 = pc') (ht : (pc : Int) + off = (tgt : Int)) (ha : a < 2 ^ 31) (kt : True → zW G d M tgt lv st n u μ nF uF Φ) (kf : False → zW G d M pc' lv st n u μ nF uF Φ) : zW G d M pc lv (.int (nI a) :: st) n u μ nF uF Φ :=
  z_if_ge k hd hp ht (fun h => kt (trivial)) (fun h => kf (h (nI_pos' ha)))
theorem z_if_eqB {c : Prop} [Decidable c] {off : Int} {tgt : Nat} (k : Nat) (hd : (mI M)[k]? = some (pc, .ifCond .eq off, 3)) (hp : pc + 3 = pc') (ht : (pc : Int) + off = (tgt : Int)) (kt : ¬ c → zW G d M tgt lv st n u μ nF uF Φ) (kf : c → zW G d M pc' lv st n u μ nF uF Φ) : zW G d M pc lv (.int (zbo c) :: st) n u μ nF uF Φ :=
  z_if_eq k hd hp ht (fun h => kt (zbo_0.mp h)) (fun h => kf (Decidable.of_not_not (fun e => h (zbo_0.mpr e))))
theorem z_if_neB {c : Prop} [Decidable c] {off : Int} {tgt : Nat} (k : Nat) (hd : (mI M)[k]? = some (pc, .ifCond .ne off, 3)) (hp : pc + 3 = pc') (ht : (pc : Int) + off = (tgt : Int)) (kt : c → zW G d M tgt lv st n u μ nF uF Φ) (kf : ¬ c → zW G d M pc' lv st n u μ nF uF Φ) : zW G d M pc lv (.int (zbo c) :: st) n u μ nF uF Φ :=
  z_if_ne k hd hp ht (fun h => kt (Decidable.of_not_not (fun e => h (zbo_0.mpr e)))) (fun h => kf (zbo_0.mp h))
/-- an array's contents beyond its length don't count -/
theorem zR_ext {H : Heap} {a N : Nat} {f g : Nat → Int32} (hm : μ a = .inl (0, N, .inl f)) (he : ∀ j, j < N → f j = g j) (hR : zR G H n μ) : zR G H n (zu μ a (.inl (0, N, .inl g))) := by
  obtain ⟨g1, g2⟩ := zR_in hR hm (by show (0 : Nat) ≠ 7; decide)
  refine zR_set hR g1 g2 ?_ rfl (fun _ _ => rfl)
  rw [← zws_set g1 g2]
  have e0 := zws_at (G := G) (n := n) (μ := μ) g1 g2
  refine va_P.set hR.2.2.1 zws_D e0 ?_ (fun _ _ => rfl)
  have h0 := hR.2.2.1 _ _ e0
  rw [hm] at h0
  have h1 : H[za G a]? = some (vp_cell (zA G 0) (N, .inl f)) := h0
  show H[za G a]? = some (vp_cell (zA G 0) (N, .inl g))
  rw [h1, vp_cell_i, vp_cell_i]
  congr 1
  unfold arrV
  congr 2
  funext j
  show Value.int (f j) = Value.int (g j)
  rw [he j j.isLt]
theorem z_ext {a N : Nat} {f : Nat → Int32} (g : Nat → Int32) (hm : μ a = .inl (0, N, .inl f)) (he : ∀ j, j < N → f j = g j) (kk : zW G d M pc lv st n u (zu μ a (.inl (0, N, .inl g))) nF uF Φ) : zW G d M pc lv st n u μ nF uF Φ := by
  intro p e R s m args below meth c n0 u0 B h1 h2 H locs ls hR hl hlv
  exact kk p e R s m args below meth c n0 u0 B h1 h2 H locs ls (zR_ext hm he hR) hl hlv
theorem zu_zu {a : Nat} {c c' : va_E} : zu (zu μ a c) a c' = zu μ a c' := by
  funext i
  unfold zu
  by_cases h : i = a
  · rw [if_pos h, if_pos h]
  · rw [if_neg h, if_neg h, if_neg h]
theorem zu_s {a : Nat} {c : va_E} : zu μ a c a = c := if_pos rfl
theorem zu_n {a b : Nat} {c : va_E} (h : b ≠ a) : zu μ a c b = μ b := if_neg h
theorem zu_id {a : Nat} {c : va_E} (h : μ a = c) : zu μ a c = μ := by
  funext i
  unfold zu
  by_cases hi : i = a
  · rw [if_pos hi, hi, h]
  · rw [if_neg hi]
theorem zu_sw {a b : Nat} {c c' : va_E} (h : a ≠ b) : zu (zu μ a c) b c' = zu (zu μ b c') a c := by
  funext i
  unfold zu
  by_cases h1 : i = a
  · subst h1; rw [if_pos rfl, if_neg h, if_pos rfl]
  · by_cases h2 : i = b
    · subst h2; rw [if_pos rfl, if_neg h1, if_pos rfl]
    · simp [h1, h2]
/-- numbers in an array -/
def un {α : Type} (f : Nat → α) (k : Nat) (x : α) : Nat → α := fun j => if j = k then x else f j
theorem upd_n {f : Nat → Nat} {k x : Nat} : upd (fun j => nI (f j)) k (nI x) = fun j => nI (un f k x j) := by
  funext j
  unfold upd un
  by_cases h : j = k
  · rw [if_pos h, if_pos h]
  · rw [if_neg h, if_neg h]
theorem upd_u {f : Nat → Int32} {k : Nat} {x : Int32} : upd f k x = un f k x := rfl
theorem un_s {α : Type} {f : Nat → α} {k : Nat} {x : α} : un f k x k = x := if_pos rfl
theorem un_n {α : Type} {f : Nat → α} {k j : Nat} {x : α} (h : j ≠ k) : un f k x j = f j := if_neg h
theorem un_id {α : Type} {f : Nat → α} {k : Nat} : un f k (f k) = f := by
  funext j
  unfold un
  by_cases h : j = k
  · rw [if_pos h, h]
  · rw [if_neg h]
theorem z_swN {a : Nat} (ha : a < 2 ^ 31) (v : Nat) (hv : v < 2 ^ 31) (kt : a = v → zW G d M pc lv (.int (nI v) :: st) n u μ nF uF Φ) (kf : a ≠ v → zW G d M pc lv (.int (nI a) :: st) n u μ nF uF Φ) : zW G d M pc lv (.int (nI a) :: st) n u μ nF uF Φ := by
  by_cases h : a = v
  · rw [h]; exact kt h
  · exact kf h
theorem z_swm {x : Int32} (v : Int32) (kt : x = v → zW G d M pc lv (.int v :: st) n u μ nF uF Φ) (kf : ¬ x = v → zW G d M pc lv (.int x :: st) n u μ nF uF Φ) : zW G d M pc lv (.int x :: st) n u μ nF uF Φ := by
  by_cases h : x = v
  · rw [h]; exact kt h
  · exact kf h
theorem z_nem {x v : Int32} (h : ¬ x = v) : x.toInt ≠ v.toInt := fun e => h (Int32.toInt_inj.mp e)
theorem z_spec (kk : (∀ i, i < 4 → μ i = zspec G i) → zW G d M pc lv st n u μ nF uF Φ) : zW G d M pc lv st n u μ nF uF Φ := by
  intro p e R s m args below meth c n0 u0 B h1 h2 H locs ls hR hl hlv
  exact kk hR.2.2.2.2.2 p e R s m args below meth c n0 u0 B h1 h2 H locs ls hR hl hlv
theorem z_te {x y : Int32} (e : x = y) (kk : zW G d M pc lv (.int y :: st) n u μ nF uF Φ) : zW G d M pc lv (.int x :: st) n u μ nF uF Φ := by
  rw [e]
  exact kk
theorem nI_inc (j c : Nat) : nI j + Int32.ofInt (c : Int) = nI (j + c) := by
  rw [← nI_add]
  congr 1
/-- an answer, and one of the heaps F q -/
def zS {α : Type} (r : Option Value) (F : α → Nat → va_E) : zP := fun r0 μ0 => r0 = r ∧ ∃ q : α, μ0 = F q
theorem z_callSX1 {idx d' n' u' : Nat} {M' : zM} {na : Nat} {as ra : List Value} {α : Type} {v : Value} {F : α → Nat → va_E} (k : Nat) (hd : (mI M)[k]? = some (pc, .invokestatic idx, 3)) (hp : pc + 3 = pc') (hk : kS (mO M) idx M' na) (hM : zMet G d' M' as n u μ n' u' (zS (some v) F)) (hdd : d' < d) (hn : n' ≤ nF) (hu : u' ≤ uF) (hna : as.length = na) (has : as.reverse ++ st = ra) (hmon : zmon st)
    (kk : ∀ q : α, zW G d M pc' lv (v :: st) n' u' (F q) nF uF Φ) : zW G d M pc lv ra n u μ nF uF Φ :=
  z_callS k hd hp hk hM hdd hn hu hna has hmon (fun r0 μ0 h => by obtain ⟨rfl, q0, rfl⟩ := h; exact kk q0)
theorem z_callSX0 {idx d' n' u' : Nat} {M' : zM} {na : Nat} {as ra : List Value} {α : Type} {F : α → Nat → va_E} (k : Nat) (hd : (mI M)[k]? = some (pc, .invokestatic idx, 3)) (hp : pc + 3 = pc') (hk : kS (mO M) idx M' na) (hM : zMet G d' M' as n u μ n' u' (zS none F)) (hdd : d' < d) (hn : n' ≤ nF) (hu : u' ≤ uF) (hna : as.length = na) (has : as.reverse ++ st = ra) (hmon : zmon st)
    (kk : ∀ q : α, zW G d M pc' lv (st) n' u' (F q) nF uF Φ) : zW G d M pc lv ra n u μ nF uF Φ :=
  z_callS k hd hp hk hM hdd hn hu hna has hmon (fun r0 μ0 h => by obtain ⟨rfl, q0, rfl⟩ := h; exact kk q0)
theorem z_callVX1 {idx ci a d' n' u' : Nat} {M' : zM} {na : Nat} {as ra : List Value} {fs : List Value} {α : Type} {v : Value} {F : α → Nat → va_E} (k : Nat) (hd : (mI M)[k]? = some (pc, .invokevirtual idx, 3)) (hp : pc + 3 = pc') (hk : kV (mO M) idx ci M' na) (hm : μ a = .inr (ci, fs)) (hM : zMet G d' M' (.ref a :: as) n u μ n' u' (zS (some v) F)) (hdd : d' < d) (hn : n' ≤ nF) (hu : u' ≤ uF) (hna : as.length = na) (has : as.reverse ++ .ref a :: st = ra) (hmon : zmon st)
    (kk : ∀ q : α, zW G d M pc' lv (v :: st) n' u' (F q) nF uF Φ) : zW G d M pc lv ra n u μ nF uF Φ :=
  z_callV k hd hp hk hm hM hdd hn hu hna has hmon (fun r0 μ0 h => by obtain ⟨rfl, q0, rfl⟩ := h; exact kk q0)
theorem z_callVX0 {idx ci a d' n' u' : Nat} {M' : zM} {na : Nat} {as ra : List Value} {fs : List Value} {α : Type} {F : α → Nat → va_E} (k : Nat) (hd : (mI M)[k]? = some (pc, .invokevirtual idx, 3)) (hp : pc + 3 = pc') (hk : kV (mO M) idx ci M' na) (hm : μ a = .inr (ci, fs)) (hM : zMet G d' M' (.ref a :: as) n u μ n' u' (zS none F)) (hdd : d' < d) (hn : n' ≤ nF) (hu : u' ≤ uF) (hna : as.length = na) (has : as.reverse ++ .ref a :: st = ra) (hmon : zmon st)
    (kk : ∀ q : α, zW G d M pc' lv (st) n' u' (F q) nF uF Φ) : zW G d M pc lv ra n u μ nF uF Φ :=
  z_callV k hd hp hk hm hM hdd hn hu hna has hmon (fun r0 μ0 h => by obtain ⟨rfl, q0, rfl⟩ := h; exact kk q0)
theorem z_callIX1 {idx a d' n' u' : Nat} {M' : zM} {na : Nat} {as ra : List Value} {α : Type} {v : Value} {F : α → Nat → va_E} (k : Nat) (hd : (mI M)[k]? = some (pc, .invokespecial idx, 3)) (hp : pc + 3 = pc') (hk : kI (mO M) idx M' na) (hM : zMet G d' M' (.ref a :: as) n u μ n' u' (zS (some v) F)) (hdd : d' < d) (hn : n' ≤ nF) (hu : u' ≤ uF) (hna : as.length = na) (has : as.reverse ++ .ref a :: st = ra) (hmon : zmon st)
    (kk : ∀ q : α, zW G d M pc' lv (v :: st) n' u' (F q) nF uF Φ) : zW G d M pc lv ra n u μ nF uF Φ :=
  z_callI k hd hp hk hM hdd hn hu hna has hmon (fun r0 μ0 h => by obtain ⟨rfl, q0, rfl⟩ := h; exact kk q0)
theorem z_callIX0 {idx a d' n' u' : Nat} {M' : zM} {na : Nat} {as ra : List Value} {α : Type} {F : α → Nat → va_E} (k : Nat) (hd : (mI M)[k]? = some (pc, .invokespecial idx, 3)) (hp : pc + 3 = pc') (hk : kI (mO M) idx M' na) (hM : zMet G d' M' (.ref a :: as) n u μ n' u' (zS none F)) (hdd : d' < d) (hn : n' ≤ nF) (hu : u' ≤ uF) (hna : as.length = na) (has : as.reverse ++ .ref a :: st = ra) (hmon : zmon st)
    (kk : ∀ q : α, zW G d M pc' lv (st) n' u' (F q) nF uF Φ) : zW G d M pc lv ra n u μ nF uF Φ :=
  z_callI k hd hp hk hM hdd hn hu hna has hmon (fun r0 μ0 h => by obtain ⟨rfl, q0, rfl⟩ := h; exact kk q0)
theorem z_callUX1 {idx ci a d' n' u' : Nat} {x : MethodName} {owner : String} {M' : zM} {na : Nat} {as ra : List Value} {fs : List Value} {α : Type} {v : Value} {F : α → Nat → va_E} (k : Nat) (hd : (mI M)[k]? = some (pc, .invokevirtual idx, 3)) (hp : pc + 3 = pc') (hk : kU (mO M) idx ci x owner M' na) (hm : μ a = .inr (ci, fs)) (hM : zMet G d' M' (.ref a :: as) n u μ n' u' (zS (some v) F)) (hdd : d' < d) (hn : n' ≤ nF) (hu : u' ≤ uF) (hna : as.length = na) (has : as.reverse ++ .ref a :: st = ra) (hmon : zmon st)
    (kk : ∀ q : α, zW G d M pc' lv (v :: st) n' u' (F q) nF uF Φ) : zW G d M pc lv ra n u μ nF uF Φ :=
  z_callU k hd hp hk hm hM hdd hn hu hna has hmon (fun r0 μ0 h => by obtain ⟨rfl, q0, rfl⟩ := h; exact kk q0)
theorem z_callUX0 {idx ci a d' n' u' : Nat} {x : MethodName} {owner : String} {M' : zM} {na : Nat} {as ra : List Value} {fs : List Value} {α : Type} {F : α → Nat → va_E} (k : Nat) (hd : (mI M)[k]? = some (pc, .invokevirtual idx, 3)) (hp : pc + 3 = pc') (hk : kU (mO M) idx ci x owner M' na) (hm : μ a = .inr (ci, fs)) (hM : zMet G d' M' (.ref a :: as) n u μ n' u' (zS none F)) (hdd : d' < d) (hn : n' ≤ nF) (hu : u' ≤ uF) (hna : as.length = na) (has : as.reverse ++ .ref a :: st = ra) (hmon : zmon st)
    (kk : ∀ q : α, zW G d M pc' lv (st) n' u' (F q) nF uF Φ) : zW G d M pc lv ra n u μ nF uF Φ :=
  z_callU k hd hp hk hm hM hdd hn hu hna has hmon (fun r0 μ0 h => by obtain ⟨rfl, q0, rfl⟩ := h; exact kk q0)
theorem z_callPX1 {idx ci a d' n' u' : Nat} {C : String} {T : u_T} {N : Nat} {M' : zM} {na : Nat} {as ra : List Value} {fs : List Value} {α : Type} {v : Value} {F : α → Nat → va_E} (k : Nat) (hd : (mI M)[k]? = some (pc, .invokespecial idx, 3)) (hp : pc + 3 = pc') (hk : kP (mO M) idx M' na) (hm : μ a = .inr (ci, fs)) (hci : zCl[ci]? = some (C, T, N)) (hM : zMet G d' M' (.ref a :: as) n u μ n' u' (zS (some v) F)) (hdd : d' < d) (hn : n' ≤ nF) (hu : u' ≤ uF) (hna : as.length = na) (has : as.reverse ++ .ref a :: st = ra) (hmon : zmon st)
    (kk : ∀ q : α, zW G d M pc' lv (v :: st) n' u' (F q) nF uF Φ) : zW G d M pc lv ra n u μ nF uF Φ :=
  z_callP k hd hp hk hm hci hM hdd hn hu hna has hmon (fun r0 μ0 h => by obtain ⟨rfl, q0, rfl⟩ := h; exact kk q0)
theorem z_callPX0 {idx ci a d' n' u' : Nat} {C : String} {T : u_T} {N : Nat} {M' : zM} {na : Nat} {as ra : List Value} {fs : List Value} {α : Type} {F : α → Nat → va_E} (k : Nat) (hd : (mI M)[k]? = some (pc, .invokespecial idx, 3)) (hp : pc + 3 = pc') (hk : kP (mO M) idx M' na) (hm : μ a = .inr (ci, fs)) (hci : zCl[ci]? = some (C, T, N)) (hM : zMet G d' M' (.ref a :: as) n u μ n' u' (zS none F)) (hdd : d' < d) (hn : n' ≤ nF) (hu : u' ≤ uF) (hna : as.length = na) (has : as.reverse ++ .ref a :: st = ra) (hmon : zmon st)
    (kk : ∀ q : α, zW G d M pc' lv (st) n' u' (F q) nF uF Φ) : zW G d M pc lv ra n u μ nF uF Φ :=
  z_callP k hd hp hk hm hci hM hdd hn hu hna has hmon (fun r0 μ0 h => by obtain ⟨rfl, q0, rfl⟩ := h; exact kk q0)
theorem un_un {α : Type} {f : Nat → α} {k : Nat} {x y : α} : un (un f k x) k y = un f k y := by
  funext j
  unfold un
  by_cases h : j = k
  · rw [if_pos h, if_pos h]
  · rw [if_neg h, if_neg h, if_neg h]
theorem nI_dec (j : Nat) : nI (j + 1) + Int32.ofInt (-1) = nI j := by
  rw [show Int32.ofInt (-1) = -1 from by decide]
  exact pk_m1 j
theorem zd2 (a : Nat) (h : a < 2 ^ 31) : nI a / nI 2 = nI (a / 2) := pk_div h (by decide) (by decide)
end ZM
