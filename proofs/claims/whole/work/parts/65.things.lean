/-! ===== super.m(..) where the superclass has m from its own superclass ===== -/
section ZQ
variable {p : Program} {l : Launch} {e : Env} {R : Room} {s : State} {m : MethodId} {args : Array Value} {below : List Frame} {meth : Method} {c : Code}
theorem zq_sub {v : Vm} {a b : ClassId} {k : Class} (h1 : v.classes[a]? = some k) (h2 : k.super = some b) : v.isSubclass a b = true := by
  have hs : 0 < v.classes.size := Nat.lt_of_le_of_lt (Nat.zero_le _) (Array.getElem?_eq_some_iff.mp h1).1
  obtain ⟨n, hn⟩ : ∃ n, v.classes.size = n + 1 := ⟨v.classes.size - 1, by omega⟩
  simp [Vm.isSubclass, hn, Vm.isSubclassAux, h1, h2]
variable {H : Heap} {locs : List Loc} {cells slots : Nat}
set_option maxHeartbeats 1000000 in
theorem zq_run {y : MethodName} {sup : String} {bytes cc : ByteArray} {maxL nL mc ms n index : Nat} {ret : Option FieldType} {ws : List Cond} {rm : Room} {Pc : Array Value → State → Prop} {Qc : Array Value → State → Outcome → State → Prop} {free : Addr → Prop} {Ts : List Cond} {own C : String} {cC : ClassId} {b : Addr} {As rest : List Value} {g : JFrame}
    (hat : ClassAt s C cC) (S : CallFix p m c cc nL s args Ts own) (hM : Met l y ws rm Pc Qc mc ms free)
    (cw : rm.cells = mc ∧ rm.slots = ms ∧ rm.frames + 1 ≤ R.frames ∧ 8 + (maxL + 11) + rm.locals ≤ R.locals ∧ (∀ w ∈ ws, ∀ (a' : Array Value) (U : State), s.WarmedH U.vm → w.before a' U = true) ∧ Cond.code y bytes maxL ret ∈ ws)
    (hl1 : (Cond.methodLink own index ⟨sup, y.name, y.desc⟩).before args s = true) (hl2 : (Cond.sameMethod sup y.cls y.name y.desc).before args s = true) (hl3 : (Cond.superclass own sup).before args s = true) (hl3' : (Cond.superclass sup y.cls).before args s = true) (hl4 : (Cond.instanceMethod y).before args s = true) (hini : (Cond.initialized y.cls).before args s = true) (hcode : (Cond.code y bytes maxL ret).before args s = true) (hno : y.name ≠ "<init>") (hlen : ∀ sig, parseMethodDescriptor y.desc = some sig → n = sig.parameters.length)
    (hp : PreV s H C b Pc As)
    (hg : g.method = m) (hn : As.length = n) (hsize : g.locals.size = nL) (hstack : g.stack = As.reverse ++ .ref b :: rest) (hW : 2 * g.monitorRoom + (rest.map fun v => v.category).sum ≤ 8) (hdg : decode cc g.pc = .ok (.invokespecial index, 3)) (hf : cells + mc ≤ R.cells ∧ slots + ms ≤ R.slots) :
    va_Run p l e R s m args below meth c H locs cells slots mc ms g rest (Qc (Value.ref b :: As).toArray) (free) := by
  obtain ⟨hrc, hrs, hfr, hlo, hws, hcw⟩ := cw
  have hK : Back l R p e below s args y 3 8 (PreOf R mc ms Pc) (PostOf Qc mc ms free) := back_of (bytes := bytes) (maxL := maxL) (ret := ret) hM hp.1 hrc hrs hfr hlo hws hcw (fun a' U hW => word_at hW (Or.inl (by first | rfl | simp [Cond.onTables, Cond.keeps, Cond.steady])) hini)
  obtain ⟨hx, hb, hml, ho, -⟩ := S
  obtain ⟨-, ⟨cellB, hcB, hoB, hclB⟩, hPc⟩ := hp
  obtain ⟨hfc, kB, hkB, -⟩ := hat
  cases hfc.symm.trans hclB
  intro T hT X
  obtain ⟨mk, methM, hnamed, hmethM, hstM, habM⟩ := Cond.instanceMethod_spec hl4
  obtain ⟨methM', cM, hmethM', -, -, -, -, -, -, hsigM⟩ := Cond.code_spec hnamed hcode
  cases hmethM.symm.trans hmethM'
  obtain ⟨ps, dk, kp, hps, hdk, hkp, hsuper, -, -, hnid⟩ := Cond.superclass_spec ho hl3
  obtain ⟨ps2, dk2, kp2, hps2, hdk2, hkp2, hsuper2, -, -, -⟩ := Cond.superclass_spec hps hl3'
  have hpm : ps2 = mk.cls := Option.some.inj (hps2.symm.trans (findClass_of_methodNamed hnamed))
  have hsub : s.vm.isSubclass ps mk.cls = true := by rw [← hpm]; exact zq_sub hdk2 hsuper2
  have hcell : T.heap[b]? = some cellB := by rw [hT]; exact hcB
  obtain ⟨vm₁, X₁, hstep₁⟩ := X.invokespecialUp hx (x := ⟨sup, y.name, y.desc⟩) (owner := y.cls) ho hl1 hl2 (show s.methodNamed? ⟨y.cls, y.name, y.desc⟩ = some mk from hnamed) hmethM hstM habM hno hdk hnid hps hsuper hsub (a := b) (cell := cellB) hcell
    (fun z h => by rw [h] at hoB; cases hoB) hkB (g := g) hg (argsL := As) (rest := rest) (hn.trans (hlen _ hsigM)) hstack (by rw [hb]; exact hdg)
  obtain ⟨v, ⟨U', l2, c2, s2⟩, X', ⟨g', mk', t, L, e1, e2, hq, h1, hL, h2, h3⟩, hsteps⟩ := hK m meth c ⟨T.setVm vm₁, locs, cells, slots⟩ { g with stack := rest } (.invokespecial index) mk (Value.ref b :: As).toArray X₁ hg (hsize.trans hml.symm) (by rw [hb]; exact hdg) hW (X₁.named hnamed) ⟨hf.1, hf.2, hPc (T.setVm vm₁) hT X₁.warmed⟩
  dsimp only [Pt.U, Pt.locs, Pt.cells, Pt.slots] at X' e1 e2 h1 h2 h3 hsteps
  subst h1; subst h2; subst h3
  exact ⟨v, (T.setVm vm₁).calling g' mk' (Value.ref b :: As).toArray, t, U', L, hT, X', hL, e1, e2, hq, fun target h => hstep₁ _ (by rw [doInvoke_state]; exact hsteps.trans h)⟩
end ZQ
def kQ (own : String) (idx : Nat) (sup : String) (M' : zM) (na : Nat) : Prop := kC M' na ∧ Cond.methodLink own idx ⟨sup, (mY M').name, (mY M').desc⟩ ∈ zT ∧ Cond.sameMethod sup (mY M').cls (mY M').name (mY M').desc ∈ zT ∧ Cond.superclass own sup ∈ zT ∧ Cond.superclass sup (mY M').cls ∈ zT ∧ Cond.instanceMethod (mY M') ∈ zT ∧ (mY M').name ≠ "<init>"
section ZQ2
variable {G : zG} {d : Nat} {M : zM} {pc pc' : Nat} {lv st : List Value} {n u : Nat} {μ : Nat → va_E} {nF uF : Nat} {Φ : zP}
theorem z_callQ {idx ci a d' n' u' : Nat} {sup : String} {C : String} {T : u_T} {N : Nat} {M' : zM} {na : Nat} {as ra : List Value} {fs : List Value} {Φ' : zP} (k : Nat) (hd : (mI M)[k]? = some (pc, .invokespecial idx, 3)) (hp : pc + 3 = pc') (hk : kQ (mO M) idx sup M' na) (hm : μ a = .inr (ci, fs)) (hci : zCl[ci]? = some (C, T, N)) (hM : zMet G d' M' (.ref a :: as) n u μ n' u' Φ') (hdd : d' < d) (hn : n' ≤ nF) (hu : u' ≤ uF) (hna : as.length = na) (has : as.reverse ++ .ref a :: st = ra) (hmon : zmon st)
    (kk : ∀ r μ', Φ' r μ' → zW G d M pc' lv (r.toList ++ st) n' u' μ' nF uF Φ) : zW G d M pc lv ra n u μ nF uF Φ := by
  subst hp; subst has; subst hna
  obtain ⟨hC, f2, f3, f4, f4', f5, f6⟩ := hk
  obtain ⟨m1, m2, m3⟩ := hM
  intro p e R s m args below meth c n0 u0 B h1 h2 H locs ls hR hl hlv
  have hB := zB_n B
  have hcb := z_callB (n := n) (u := u) (n' := n') (u' := u') (M' := M') B hdd hC
  have hT := zB_T B
  refine z_run (d' := d') (a := (Value.ref (za G a) :: as.map (zv G)).toArray) B h1 h2 m1 m2 hl hlv ?_ kk
  exact zq_run (C := C) (sup := sup) (b := za G a) (As := as.map (zv G)) (n := as.length) ((zB_K B).1 ci _ hci).2 ⟨B.1, B.2.1, B.2.2.2.1, zB_own B, hT⟩ m3 ⟨hcb.1, hcb.2.1, hcb.2.2.1, hcb.2.2.2.1, hcb.2.2.2.2.1, hcb.2.2.2.2.2⟩ (hT _ f2) (hT _ f3) (hT _ f4) (hT _ f4') (hT _ f5) (hT _ hC.2.1) (hT _ hC.1) f6 (kC_par hC) ⟨z_blind, z_recv B hR hm hci, z_pre B hR (.ref a :: as)⟩ rfl (by simp) hlv.1 (by simp [zv]) (z_mon hmon) (z_dec (zB_ok B) hd) ⟨by omega, by omega⟩
theorem z_callQ1 {idx ci a d' n' u' : Nat} {sup : String} {C : String} {T : u_T} {N : Nat} {M' : zM} {na : Nat} {as ra : List Value} {fs : List Value} {v : Value} {μ' : Nat → va_E} (k : Nat) (hd : (mI M)[k]? = some (pc, .invokespecial idx, 3)) (hp : pc + 3 = pc') (hk : kQ (mO M) idx sup M' na) (hm : μ a = .inr (ci, fs)) (hci : zCl[ci]? = some (C, T, N)) (hM : zMet G d' M' (.ref a :: as) n u μ n' u' (zE (some v) μ')) (hdd : d' < d) (hn : n' ≤ nF) (hu : u' ≤ uF) (hna : as.length = na) (has : as.reverse ++ .ref a :: st = ra) (hmon : zmon st)
    (kk : zW G d M pc' lv (v :: st) n' u' μ' nF uF Φ) : zW G d M pc lv ra n u μ nF uF Φ :=
  z_callQ k hd hp hk hm hci hM hdd hn hu hna has hmon (fun r0 μ0 h => by obtain ⟨rfl, rfl⟩ := h; exact kk)
end ZQ2
theorem k_Tw_13 : kQ "WindBrides$Twice" 13 "WindBrides$Bred" M_Gi_sails 1 := ⟨kc_Gi_sails, z_mem 1083 (by decide +kernel) rfl, z_mem 1084 (by decide +kernel) rfl, z_mem 1026 (by decide +kernel) rfl, z_mem 1014 (by decide +kernel) rfl, z_mem 1061 (by decide +kernel) rfl, by decide⟩
theorem k_Tw_17 : kQ "WindBrides$Twice" 17 "WindBrides$Bred" M_Gi_weds 1 := ⟨kc_Gi_weds, z_mem 1148 (by decide +kernel) rfl, z_mem 1149 (by decide +kernel) rfl, z_mem 1026 (by decide +kernel) rfl, z_mem 1014 (by decide +kernel) rfl, z_mem 1138 (by decide +kernel) rfl, by decide⟩
theorem k_Ca_13 : kQ "WindBrides$Calm" 13 "WindBrides$Late" M_Gi_calls 1 := ⟨kc_Gi_calls, z_mem 1106 (by decide +kernel) rfl, z_mem 1107 (by decide +kernel) rfl, z_mem 1050 (by decide +kernel) rfl, z_mem 1038 (by decide +kernel) rfl, z_mem 1089 (by decide +kernel) rfl, by decide⟩
/-! ===== things with acts ===== -/
abbrev zAc : Type := Nat × Bool × (Nat → Int32)
def bgS (body : Nat) (st : zAc) : zAc := if st.2.1 = false ∧ st.1 < 30 then (st.1 + 1, st.2.1, upd st.2.2 st.1 (nI body)) else st
def saP (g : Nat) (x : Int32) (st : zAc) : Int32 × zAc := (x * nI 3 - nI g, bgS 10 st)
def saK (k g : Nat) (x : Int32) (st : zAc) : Int32 × zAc := if k = 1 then ((saP g x (bgS 20 st)).1 - nI 2, (saP g x (bgS 20 st)).2) else if k = 3 then saP g (x + nI 1) (bgS 50 st) else saP g x st
def caP (k g w : Nat) (x : Int32) (st : zAc) : Int32 × zAc := ((saK k g x (bgS 11 st)).1 + nI w, (saK k g x (bgS 11 st)).2)
def caK (k g w : Nat) (x : Int32) (st : zAc) : Int32 × zAc := if k = 2 ∨ k = 3 then ((caP k g w x (bgS 30 st)).1 ^^^ nI g, (caP k g w x (bgS 30 st)).2) else if k = 5 then (nI 1 - (caP k g w x (bgS 60 st)).1, (caP k g w x (bgS 60 st)).2) else caP k g w x st
def shP (g w : Nat) (x : Int32) (st : zAc) : Int32 × zAc := if g = w then (nI 0, ((bgS 12 st).1, true, (bgS 12 st).2.2)) else (x - x / (nI g - nI w) * (nI g - nI w), bgS 12 st)
def shL (g w : Nat) (x : Int32) (st : zAc) : Int32 × zAc := ((shP g w x (bgS 40 st)).1 * nI 2, (shP g w x (bgS 40 st)).2)
def shK (k g w : Nat) (x : Int32) (st : zAc) : Int32 × zAc := if k = 4 then shL g w x st else if k = 5 then ((shL g w x (bgS 61 st)).1 ^^^ (saK k g (nI g) (shL g w x (bgS 61 st)).2).1, (saK k g (nI g) (shL g w x (bgS 61 st)).2).2) else shP g w x st
def weP (k g w : Nat) (x : Int32) (st : zAc) : Int32 × zAc := ((caK k g w x (bgS 13 st)).1 - (shK k g w x (caK k g w x (bgS 13 st)).2).1, (shK k g w x (caK k g w x (bgS 13 st)).2).2)
def weK (k g w : Nat) (x : Int32) (st : zAc) : Int32 × zAc := if k = 3 then ((weP k g w x (bgS 51 st)).1 + (caK k g w (nI w) (weP k g w x (bgS 51 st)).2).1, (caK k g w (nI w) (weP k g w x (bgS 51 st)).2).2) else weP k g w x st
def acK (y k g w : Nat) (x : Int32) (st : zAc) : Int32 × zAc := if y = 0 then saK k g x st else if y = 1 then caK k g w x st else if y = 2 then shK k g w x st else weK k g w x st
def iA (st : zAc) : Prop := st.1 ≤ 30
theorem iA_b {body : Nat} {st : zAc} (h : iA st) : iA (bgS body st) := by
  unfold bgS
  split
  · rename_i e; exact e.2
  · exact h
def obT (ci g w b : Nat) (p : Bool) : va_E := .inr (ci, [.int (nI g), .int (nI w), .ref 87, .int (nI b), .int (bI p)])
def pth (ν : Nat → va_E) (a ci g w : Nat) (st : zAc) : Nat → va_E := zu (zu ν a (obT ci g w st.1 st.2.1)) 87 (.inl (0, 30, .inl st.2.2))
section PTH
variable {ν : Nat → va_E} {a ci g w b : Nat} {p : Bool} {tr : Nat → Int32}
theorem pth_a (h : a ≠ 87) : pth ν a ci g w (b, p, tr) a = .inr (ci, [.int (nI g), .int (nI w), .ref 87, .int (nI b), .int (bI p)]) := by
  unfold pth
  rw [zu_n h, zu_s]
  rfl
theorem pth_87 : pth ν a ci g w (b, p, tr) 87 = .inl (0, 30, .inl tr) := zu_s
theorem pth_o {i : Nat} {st : zAc} (h : i ≠ a) (h2 : i ≠ 87) : pth ν a ci g w st i = ν i := by
  unfold pth
  rw [zu_n h2, zu_n h]
theorem pth_s87 {f : Nat → Int32} : zu (pth ν a ci g w (b, p, tr)) 87 (.inl (0, 30, .inl f)) = pth ν a ci g w (b, p, f) := by
  unfold pth
  rw [zu_zu]
theorem pth_sb (h : a ≠ 87) {b' : Nat} : zu (pth ν a ci g w (b, p, tr)) a (.inr (ci, [.int (nI g), .int (nI w), .ref 87, .int (nI b'), .int (bI p)])) = pth ν a ci g w (b', p, tr) := by
  unfold pth
  rw [zu_sw (a := 87) (b := a) (Ne.symm h), zu_zu]
  rfl
theorem pth_sp (h : a ≠ 87) : zu (pth ν a ci g w (b, p, tr)) a (.inr (ci, [.int (nI g), .int (nI w), .ref 87, .int (nI b), .int (nI 1)])) = pth ν a ci g w (b, true, tr) := by
  unfold pth
  rw [zu_sw (a := 87) (b := a) (Ne.symm h), zu_zu]
  rfl
end PTH
set_option maxHeartbeats 4000000 in
set_option maxRecDepth 100000 in
theorem c_Gi_begins_5 {G : zG} {n u : Nat} {ν : Nat → va_E} {a g w : Nat} {st : zAc} (ha : a ≠ 87) (hg : g ≤ 5) (hw : w ≤ 9) (hs : iA st) {body : Nat} : zMet G 0 M_Gi_begins [.ref a, .int (nI body)] n u (pth ν a 5 g w st) n u (zE none (pth ν a 5 g w (bgS body st))) := by
  obtain ⟨b, p, tr⟩ := st
  have hb : b ≤ 30 := hs
  refine z_start (lv := [.ref a, .int (nI body)]) K_Gi_begins rfl rfl (Nat.le_refl _) (Nat.le_refl _) (Nat.le_of_ble_eq_true rfl) rfl ?_
  refine z_al0 (pc' := 1) 0 rfl rfl ?_
  refine z_getf (pc' := 4) 1 rfl rfl f_Gi_20_5 (by first | exact pth_a ha | exact pth_87) (by rfl) ?_
  first | refine z_if_neB (pc' := 7) 2 rfl rfl (tgt := 39) rfl (fun h4 => ?_) (fun h4 => ?_) | refine z_if_neN (pc' := 7) 2 rfl rfl (tgt := 39) rfl (by omega) (fun h4 => ?_) (fun h4 => ?_) | refine z_if_ne (pc' := 7) 2 rfl rfl (tgt := 39) rfl (fun h4 => ?_) (fun h4 => ?_)
  · exact z_return 21 rfl rfl rfl rfl (by exact ⟨rfl, by rw [bgS, if_neg (fun z => by have := z.1; rw [h4] at this; cases this)]⟩)
  · refine z_al0 (pc' := 8) 3 rfl rfl ?_
    refine z_getf (pc' := 11) 4 rfl rfl f_Gi_24_5 (by first | exact pth_a ha | exact pth_87) (by rfl) ?_
    refine z_al0 (pc' := 12) 5 rfl rfl ?_
    refine z_getf (pc' := 15) 6 rfl rfl f_Gi_16_5 (by first | exact pth_a ha | exact pth_87) (by rfl) ?_
    refine z_alen (pc' := 16) (kd := 0) 7 rfl rfl (by first | exact pth_a ha | exact pth_87) ?_
    first | refine z_icmp_geN (pc' := 19) 8 rfl rfl (tgt := 39) rfl (by omega) (by omega) (fun h16 => ?_) (fun h16 => ?_) | refine z_icmp_ge (pc' := 19) 8 rfl rfl (tgt := 39) rfl (fun h16 => ?_) (fun h16 => ?_)
    · exact z_return 21 rfl rfl rfl rfl (by exact ⟨rfl, by rw [bgS, if_neg (fun z => by have := z.2; have : b < 30 := this; omega)]⟩)
    · refine z_al0 (pc' := 20) 9 rfl rfl ?_
      refine z_getf (pc' := 23) 10 rfl rfl f_Gi_16_5 (by first | exact pth_a ha | exact pth_87) (by rfl) ?_
      refine z_al0 (pc' := 24) 11 rfl rfl ?_
      refine z_getf (pc' := 27) 12 rfl rfl f_Gi_24_5 (by first | exact pth_a ha | exact pth_87) (by rfl) ?_
      refine z_il1 (pc' := 28) 13 rfl rfl ?_
      refine z_iast (pc' := 29) 14 rfl rfl (by first | exact pth_a ha | exact pth_87) (by omega) (by decide) ?_
      rw [pth_s87]
      refine z_al0 (pc' := 30) 15 rfl rfl ?_
      refine z_dup rfl (pc' := 31) 16 rfl rfl ?_
      refine z_getf (pc' := 34) 17 rfl rfl f_Gi_24_5 (by first | exact pth_a ha | exact pth_87) (by rfl) ?_
      refine z_iconst (v := nI 1) (by decide) (pc' := 35) 18 rfl rfl ?_
      first | refine z_iaddN (pc' := 36) 19 rfl rfl ?_ | refine z_iadd (pc' := 36) 19 rfl rfl ?_
      refine z_putf (pc' := 39) 20 rfl rfl f_Gi_24_5 (by first | exact pth_a ha | exact pth_87) rfl rfl (by rfl) (by rfl) ?_
      dsimp only [List.set]
      rw [pth_sb ha]
      exact z_return 21 rfl rfl rfl rfl (by exact ⟨rfl, by rw [bgS, if_pos ⟨eq_false_of_ne_true h4, (by show b < 30; omega)⟩]⟩)
set_option maxHeartbeats 4000000 in
set_option maxRecDepth 100000 in
theorem c_Gi_begins_8 {G : zG} {n u : Nat} {ν : Nat → va_E} {a g w : Nat} {st : zAc} (ha : a ≠ 87) (hg : g ≤ 5) (hw : w ≤ 9) (hs : iA st) {body : Nat} : zMet G 0 M_Gi_begins [.ref a, .int (nI body)] n u (pth ν a 8 g w st) n u (zE none (pth ν a 8 g w (bgS body st))) := by
  obtain ⟨b, p, tr⟩ := st
  have hb : b ≤ 30 := hs
  refine z_start (lv := [.ref a, .int (nI body)]) K_Gi_begins rfl rfl (Nat.le_refl _) (Nat.le_refl _) (Nat.le_of_ble_eq_true rfl) rfl ?_
  refine z_al0 (pc' := 1) 0 rfl rfl ?_
  refine z_getf (pc' := 4) 1 rfl rfl f_Gi_20_8 (by first | exact pth_a ha | exact pth_87) (by rfl) ?_
  first | refine z_if_neB (pc' := 7) 2 rfl rfl (tgt := 39) rfl (fun h4 => ?_) (fun h4 => ?_) | refine z_if_neN (pc' := 7) 2 rfl rfl (tgt := 39) rfl (by omega) (fun h4 => ?_) (fun h4 => ?_) | refine z_if_ne (pc' := 7) 2 rfl rfl (tgt := 39) rfl (fun h4 => ?_) (fun h4 => ?_)
  · exact z_return 21 rfl rfl rfl rfl (by exact ⟨rfl, by rw [bgS, if_neg (fun z => by have := z.1; rw [h4] at this; cases this)]⟩)
  · refine z_al0 (pc' := 8) 3 rfl rfl ?_
    refine z_getf (pc' := 11) 4 rfl rfl f_Gi_24_8 (by first | exact pth_a ha | exact pth_87) (by rfl) ?_
    refine z_al0 (pc' := 12) 5 rfl rfl ?_
    refine z_getf (pc' := 15) 6 rfl rfl f_Gi_16_8 (by first | exact pth_a ha | exact pth_87) (by rfl) ?_
    refine z_alen (pc' := 16) (kd := 0) 7 rfl rfl (by first | exact pth_a ha | exact pth_87) ?_
    first | refine z_icmp_geN (pc' := 19) 8 rfl rfl (tgt := 39) rfl (by omega) (by omega) (fun h16 => ?_) (fun h16 => ?_) | refine z_icmp_ge (pc' := 19) 8 rfl rfl (tgt := 39) rfl (fun h16 => ?_) (fun h16 => ?_)
    · exact z_return 21 rfl rfl rfl rfl (by exact ⟨rfl, by rw [bgS, if_neg (fun z => by have := z.2; have : b < 30 := this; omega)]⟩)
    · refine z_al0 (pc' := 20) 9 rfl rfl ?_
      refine z_getf (pc' := 23) 10 rfl rfl f_Gi_16_8 (by first | exact pth_a ha | exact pth_87) (by rfl) ?_
      refine z_al0 (pc' := 24) 11 rfl rfl ?_
      refine z_getf (pc' := 27) 12 rfl rfl f_Gi_24_8 (by first | exact pth_a ha | exact pth_87) (by rfl) ?_
      refine z_il1 (pc' := 28) 13 rfl rfl ?_
      refine z_iast (pc' := 29) 14 rfl rfl (by first | exact pth_a ha | exact pth_87) (by omega) (by decide) ?_
      rw [pth_s87]
      refine z_al0 (pc' := 30) 15 rfl rfl ?_
      refine z_dup rfl (pc' := 31) 16 rfl rfl ?_
      refine z_getf (pc' := 34) 17 rfl rfl f_Gi_24_8 (by first | exact pth_a ha | exact pth_87) (by rfl) ?_
      refine z_iconst (v := nI 1) (by decide) (pc' := 35) 18 rfl rfl ?_
      first | refine z_iaddN (pc' := 36) 19 rfl rfl ?_ | refine z_iadd (pc' := 36) 19 rfl rfl ?_
      refine z_putf (pc' := 39) 20 rfl rfl f_Gi_24_8 (by first | exact pth_a ha | exact pth_87) rfl rfl (by rfl) (by rfl) ?_
      dsimp only [List.set]
      rw [pth_sb ha]
      exact z_return 21 rfl rfl rfl rfl (by exact ⟨rfl, by rw [bgS, if_pos ⟨eq_false_of_ne_true h4, (by show b < 30; omega)⟩]⟩)
set_option maxHeartbeats 4000000 in
set_option maxRecDepth 100000 in
theorem c_Gi_begins_1 {G : zG} {n u : Nat} {ν : Nat → va_E} {a g w : Nat} {st : zAc} (ha : a ≠ 87) (hg : g ≤ 5) (hw : w ≤ 9) (hs : iA st) {body : Nat} : zMet G 0 M_Gi_begins [.ref a, .int (nI body)] n u (pth ν a 1 g w st) n u (zE none (pth ν a 1 g w (bgS body st))) := by
  obtain ⟨b, p, tr⟩ := st
  have hb : b ≤ 30 := hs
  refine z_start (lv := [.ref a, .int (nI body)]) K_Gi_begins rfl rfl (Nat.le_refl _) (Nat.le_refl _) (Nat.le_of_ble_eq_true rfl) rfl ?_
  refine z_al0 (pc' := 1) 0 rfl rfl ?_
  refine z_getf (pc' := 4) 1 rfl rfl f_Gi_20_1 (by first | exact pth_a ha | exact pth_87) (by rfl) ?_
  first | refine z_if_neB (pc' := 7) 2 rfl rfl (tgt := 39) rfl (fun h4 => ?_) (fun h4 => ?_) | refine z_if_neN (pc' := 7) 2 rfl rfl (tgt := 39) rfl (by omega) (fun h4 => ?_) (fun h4 => ?_) | refine z_if_ne (pc' := 7) 2 rfl rfl (tgt := 39) rfl (fun h4 => ?_) (fun h4 => ?_)
  · exact z_return 21 rfl rfl rfl rfl (by exact ⟨rfl, by rw [bgS, if_neg (fun z => by have := z.1; rw [h4] at this; cases this)]⟩)
  · refine z_al0 (pc' := 8) 3 rfl rfl ?_
    refine z_getf (pc' := 11) 4 rfl rfl f_Gi_24_1 (by first | exact pth_a ha | exact pth_87) (by rfl) ?_
    refine z_al0 (pc' := 12) 5 rfl rfl ?_
    refine z_getf (pc' := 15) 6 rfl rfl f_Gi_16_1 (by first | exact pth_a ha | exact pth_87) (by rfl) ?_
    refine z_alen (pc' := 16) (kd := 0) 7 rfl rfl (by first | exact pth_a ha | exact pth_87) ?_
    first | refine z_icmp_geN (pc' := 19) 8 rfl rfl (tgt := 39) rfl (by omega) (by omega) (fun h16 => ?_) (fun h16 => ?_) | refine z_icmp_ge (pc' := 19) 8 rfl rfl (tgt := 39) rfl (fun h16 => ?_) (fun h16 => ?_)
    · exact z_return 21 rfl rfl rfl rfl (by exact ⟨rfl, by rw [bgS, if_neg (fun z => by have := z.2; have : b < 30 := this; omega)]⟩)
    · refine z_al0 (pc' := 20) 9 rfl rfl ?_
      refine z_getf (pc' := 23) 10 rfl rfl f_Gi_16_1 (by first | exact pth_a ha | exact pth_87) (by rfl) ?_
      refine z_al0 (pc' := 24) 11 rfl rfl ?_
      refine z_getf (pc' := 27) 12 rfl rfl f_Gi_24_1 (by first | exact pth_a ha | exact pth_87) (by rfl) ?_
      refine z_il1 (pc' := 28) 13 rfl rfl ?_
      refine z_iast (pc' := 29) 14 rfl rfl (by first | exact pth_a ha | exact pth_87) (by omega) (by decide) ?_
      rw [pth_s87]
      refine z_al0 (pc' := 30) 15 rfl rfl ?_
      refine z_dup rfl (pc' := 31) 16 rfl rfl ?_
      refine z_getf (pc' := 34) 17 rfl rfl f_Gi_24_1 (by first | exact pth_a ha | exact pth_87) (by rfl) ?_
      refine z_iconst (v := nI 1) (by decide) (pc' := 35) 18 rfl rfl ?_
      first | refine z_iaddN (pc' := 36) 19 rfl rfl ?_ | refine z_iadd (pc' := 36) 19 rfl rfl ?_
      refine z_putf (pc' := 39) 20 rfl rfl f_Gi_24_1 (by first | exact pth_a ha | exact pth_87) rfl rfl (by rfl) (by rfl) ?_
      dsimp only [List.set]
      rw [pth_sb ha]
      exact z_return 21 rfl rfl rfl rfl (by exact ⟨rfl, by rw [bgS, if_pos ⟨eq_false_of_ne_true h4, (by show b < 30; omega)⟩]⟩)
set_option maxHeartbeats 4000000 in
set_option maxRecDepth 100000 in
theorem c_Gi_begins_10 {G : zG} {n u : Nat} {ν : Nat → va_E} {a g w : Nat} {st : zAc} (ha : a ≠ 87) (hg : g ≤ 5) (hw : w ≤ 9) (hs : iA st) {body : Nat} : zMet G 0 M_Gi_begins [.ref a, .int (nI body)] n u (pth ν a 10 g w st) n u (zE none (pth ν a 10 g w (bgS body st))) := by
  obtain ⟨b, p, tr⟩ := st
  have hb : b ≤ 30 := hs
  refine z_start (lv := [.ref a, .int (nI body)]) K_Gi_begins rfl rfl (Nat.le_refl _) (Nat.le_refl _) (Nat.le_of_ble_eq_true rfl) rfl ?_
  refine z_al0 (pc' := 1) 0 rfl rfl ?_
  refine z_getf (pc' := 4) 1 rfl rfl f_Gi_20_10 (by first | exact pth_a ha | exact pth_87) (by rfl) ?_
  first | refine z_if_neB (pc' := 7) 2 rfl rfl (tgt := 39) rfl (fun h4 => ?_) (fun h4 => ?_) | refine z_if_neN (pc' := 7) 2 rfl rfl (tgt := 39) rfl (by omega) (fun h4 => ?_) (fun h4 => ?_) | refine z_if_ne (pc' := 7) 2 rfl rfl (tgt := 39) rfl (fun h4 => ?_) (fun h4 => ?_)
  · exact z_return 21 rfl rfl rfl rfl (by exact ⟨rfl, by rw [bgS, if_neg (fun z => by have := z.1; rw [h4] at this; cases this)]⟩)
  · refine z_al0 (pc' := 8) 3 rfl rfl ?_
    refine z_getf (pc' := 11) 4 rfl rfl f_Gi_24_10 (by first | exact pth_a ha | exact pth_87) (by rfl) ?_
    refine z_al0 (pc' := 12) 5 rfl rfl ?_
    refine z_getf (pc' := 15) 6 rfl rfl f_Gi_16_10 (by first | exact pth_a ha | exact pth_87) (by rfl) ?_
    refine z_alen (pc' := 16) (kd := 0) 7 rfl rfl (by first | exact pth_a ha | exact pth_87) ?_
    first | refine z_icmp_geN (pc' := 19) 8 rfl rfl (tgt := 39) rfl (by omega) (by omega) (fun h16 => ?_) (fun h16 => ?_) | refine z_icmp_ge (pc' := 19) 8 rfl rfl (tgt := 39) rfl (fun h16 => ?_) (fun h16 => ?_)
    · exact z_return 21 rfl rfl rfl rfl (by exact ⟨rfl, by rw [bgS, if_neg (fun z => by have := z.2; have : b < 30 := this; omega)]⟩)
    · refine z_al0 (pc' := 20) 9 rfl rfl ?_
      refine z_getf (pc' := 23) 10 rfl rfl f_Gi_16_10 (by first | exact pth_a ha | exact pth_87) (by rfl) ?_
      refine z_al0 (pc' := 24) 11 rfl rfl ?_
      refine z_getf (pc' := 27) 12 rfl rfl f_Gi_24_10 (by first | exact pth_a ha | exact pth_87) (by rfl) ?_
      refine z_il1 (pc' := 28) 13 rfl rfl ?_
      refine z_iast (pc' := 29) 14 rfl rfl (by first | exact pth_a ha | exact pth_87) (by omega) (by decide) ?_
      rw [pth_s87]
      refine z_al0 (pc' := 30) 15 rfl rfl ?_
      refine z_dup rfl (pc' := 31) 16 rfl rfl ?_
      refine z_getf (pc' := 34) 17 rfl rfl f_Gi_24_10 (by first | exact pth_a ha | exact pth_87) (by rfl) ?_
      refine z_iconst (v := nI 1) (by decide) (pc' := 35) 18 rfl rfl ?_
      first | refine z_iaddN (pc' := 36) 19 rfl rfl ?_ | refine z_iadd (pc' := 36) 19 rfl rfl ?_
      refine z_putf (pc' := 39) 20 rfl rfl f_Gi_24_10 (by first | exact pth_a ha | exact pth_87) rfl rfl (by rfl) (by rfl) ?_
      dsimp only [List.set]
      rw [pth_sb ha]
      exact z_return 21 rfl rfl rfl rfl (by exact ⟨rfl, by rw [bgS, if_pos ⟨eq_false_of_ne_true h4, (by show b < 30; omega)⟩]⟩)
set_option maxHeartbeats 4000000 in
set_option maxRecDepth 100000 in
theorem c_Gi_begins_6 {G : zG} {n u : Nat} {ν : Nat → va_E} {a g w : Nat} {st : zAc} (ha : a ≠ 87) (hg : g ≤ 5) (hw : w ≤ 9) (hs : iA st) {body : Nat} : zMet G 0 M_Gi_begins [.ref a, .int (nI body)] n u (pth ν a 6 g w st) n u (zE none (pth ν a 6 g w (bgS body st))) := by
  obtain ⟨b, p, tr⟩ := st
  have hb : b ≤ 30 := hs
  refine z_start (lv := [.ref a, .int (nI body)]) K_Gi_begins rfl rfl (Nat.le_refl _) (Nat.le_refl _) (Nat.le_of_ble_eq_true rfl) rfl ?_
  refine z_al0 (pc' := 1) 0 rfl rfl ?_
  refine z_getf (pc' := 4) 1 rfl rfl f_Gi_20_6 (by first | exact pth_a ha | exact pth_87) (by rfl) ?_
  first | refine z_if_neB (pc' := 7) 2 rfl rfl (tgt := 39) rfl (fun h4 => ?_) (fun h4 => ?_) | refine z_if_neN (pc' := 7) 2 rfl rfl (tgt := 39) rfl (by omega) (fun h4 => ?_) (fun h4 => ?_) | refine z_if_ne (pc' := 7) 2 rfl rfl (tgt := 39) rfl (fun h4 => ?_) (fun h4 => ?_)
  · exact z_return 21 rfl rfl rfl rfl (by exact ⟨rfl, by rw [bgS, if_neg (fun z => by have := z.1; rw [h4] at this; cases this)]⟩)
  · refine z_al0 (pc' := 8) 3 rfl rfl ?_
    refine z_getf (pc' := 11) 4 rfl rfl f_Gi_24_6 (by first | exact pth_a ha | exact pth_87) (by rfl) ?_
    refine z_al0 (pc' := 12) 5 rfl rfl ?_
    refine z_getf (pc' := 15) 6 rfl rfl f_Gi_16_6 (by first | exact pth_a ha | exact pth_87) (by rfl) ?_
    refine z_alen (pc' := 16) (kd := 0) 7 rfl rfl (by first | exact pth_a ha | exact pth_87) ?_
    first | refine z_icmp_geN (pc' := 19) 8 rfl rfl (tgt := 39) rfl (by omega) (by omega) (fun h16 => ?_) (fun h16 => ?_) | refine z_icmp_ge (pc' := 19) 8 rfl rfl (tgt := 39) rfl (fun h16 => ?_) (fun h16 => ?_)
    · exact z_return 21 rfl rfl rfl rfl (by exact ⟨rfl, by rw [bgS, if_neg (fun z => by have := z.2; have : b < 30 := this; omega)]⟩)
    · refine z_al0 (pc' := 20) 9 rfl rfl ?_
      refine z_getf (pc' := 23) 10 rfl rfl f_Gi_16_6 (by first | exact pth_a ha | exact pth_87) (by rfl) ?_
      refine z_al0 (pc' := 24) 11 rfl rfl ?_
      refine z_getf (pc' := 27) 12 rfl rfl f_Gi_24_6 (by first | exact pth_a ha | exact pth_87) (by rfl) ?_
      refine z_il1 (pc' := 28) 13 rfl rfl ?_
      refine z_iast (pc' := 29) 14 rfl rfl (by first | exact pth_a ha | exact pth_87) (by omega) (by decide) ?_
      rw [pth_s87]
      refine z_al0 (pc' := 30) 15 rfl rfl ?_
      refine z_dup rfl (pc' := 31) 16 rfl rfl ?_
      refine z_getf (pc' := 34) 17 rfl rfl f_Gi_24_6 (by first | exact pth_a ha | exact pth_87) (by rfl) ?_
      refine z_iconst (v := nI 1) (by decide) (pc' := 35) 18 rfl rfl ?_
      first | refine z_iaddN (pc' := 36) 19 rfl rfl ?_ | refine z_iadd (pc' := 36) 19 rfl rfl ?_
      refine z_putf (pc' := 39) 20 rfl rfl f_Gi_24_6 (by first | exact pth_a ha | exact pth_87) rfl rfl (by rfl) (by rfl) ?_
      dsimp only [List.set]
      rw [pth_sb ha]
      exact z_return 21 rfl rfl rfl rfl (by exact ⟨rfl, by rw [bgS, if_pos ⟨eq_false_of_ne_true h4, (by show b < 30; omega)⟩]⟩)
set_option maxHeartbeats 4000000 in
set_option maxRecDepth 100000 in
theorem c_Gi_begins_2 {G : zG} {n u : Nat} {ν : Nat → va_E} {a g w : Nat} {st : zAc} (ha : a ≠ 87) (hg : g ≤ 5) (hw : w ≤ 9) (hs : iA st) {body : Nat} : zMet G 0 M_Gi_begins [.ref a, .int (nI body)] n u (pth ν a 2 g w st) n u (zE none (pth ν a 2 g w (bgS body st))) := by
  obtain ⟨b, p, tr⟩ := st
  have hb : b ≤ 30 := hs
  refine z_start (lv := [.ref a, .int (nI body)]) K_Gi_begins rfl rfl (Nat.le_refl _) (Nat.le_refl _) (Nat.le_of_ble_eq_true rfl) rfl ?_
  refine z_al0 (pc' := 1) 0 rfl rfl ?_
  refine z_getf (pc' := 4) 1 rfl rfl f_Gi_20_2 (by first | exact pth_a ha | exact pth_87) (by rfl) ?_
  first | refine z_if_neB (pc' := 7) 2 rfl rfl (tgt := 39) rfl (fun h4 => ?_) (fun h4 => ?_) | refine z_if_neN (pc' := 7) 2 rfl rfl (tgt := 39) rfl (by omega) (fun h4 => ?_) (fun h4 => ?_) | refine z_if_ne (pc' := 7) 2 rfl rfl (tgt := 39) rfl (fun h4 => ?_) (fun h4 => ?_)
  · exact z_return 21 rfl rfl rfl rfl (by exact ⟨rfl, by rw [bgS, if_neg (fun z => by have := z.1; rw [h4] at this; cases this)]⟩)
  · refine z_al0 (pc' := 8) 3 rfl rfl ?_
    refine z_getf (pc' := 11) 4 rfl rfl f_Gi_24_2 (by first | exact pth_a ha | exact pth_87) (by rfl) ?_
    refine z_al0 (pc' := 12) 5 rfl rfl ?_
    refine z_getf (pc' := 15) 6 rfl rfl f_Gi_16_2 (by first | exact pth_a ha | exact pth_87) (by rfl) ?_
    refine z_alen (pc' := 16) (kd := 0) 7 rfl rfl (by first | exact pth_a ha | exact pth_87) ?_
    first | refine z_icmp_geN (pc' := 19) 8 rfl rfl (tgt := 39) rfl (by omega) (by omega) (fun h16 => ?_) (fun h16 => ?_) | refine z_icmp_ge (pc' := 19) 8 rfl rfl (tgt := 39) rfl (fun h16 => ?_) (fun h16 => ?_)
    · exact z_return 21 rfl rfl rfl rfl (by exact ⟨rfl, by rw [bgS, if_neg (fun z => by have := z.2; have : b < 30 := this; omega)]⟩)
    · refine z_al0 (pc' := 20) 9 rfl rfl ?_
      refine z_getf (pc' := 23) 10 rfl rfl f_Gi_16_2 (by first | exact pth_a ha | exact pth_87) (by rfl) ?_
      refine z_al0 (pc' := 24) 11 rfl rfl ?_
      refine z_getf (pc' := 27) 12 rfl rfl f_Gi_24_2 (by first | exact pth_a ha | exact pth_87) (by rfl) ?_
      refine z_il1 (pc' := 28) 13 rfl rfl ?_
      refine z_iast (pc' := 29) 14 rfl rfl (by first | exact pth_a ha | exact pth_87) (by omega) (by decide) ?_
      rw [pth_s87]
      refine z_al0 (pc' := 30) 15 rfl rfl ?_
      refine z_dup rfl (pc' := 31) 16 rfl rfl ?_
      refine z_getf (pc' := 34) 17 rfl rfl f_Gi_24_2 (by first | exact pth_a ha | exact pth_87) (by rfl) ?_
      refine z_iconst (v := nI 1) (by decide) (pc' := 35) 18 rfl rfl ?_
      first | refine z_iaddN (pc' := 36) 19 rfl rfl ?_ | refine z_iadd (pc' := 36) 19 rfl rfl ?_
      refine z_putf (pc' := 39) 20 rfl rfl f_Gi_24_2 (by first | exact pth_a ha | exact pth_87) rfl rfl (by rfl) (by rfl) ?_
      dsimp only [List.set]
      rw [pth_sb ha]
      exact z_return 21 rfl rfl rfl rfl (by exact ⟨rfl, by rw [bgS, if_pos ⟨eq_false_of_ne_true h4, (by show b < 30; omega)⟩]⟩)
theorem pth_A {ν : Nat → va_E} {a ci g w : Nat} {st : zAc} (h : a ≠ 87) : pth ν a ci g w st a = .inr (ci, [.int (nI g), .int (nI w), .ref 87, .int (nI st.1), .int (bI st.2.1)]) := by
  obtain ⟨b, p, tr⟩ := st
  exact pth_a h
theorem iA_sa {k g : Nat} {x : Int32} {st : zAc} (h : iA st) : iA (saK k g x st).2 := by
  unfold saK
  split
  · exact iA_b (iA_b h)
  · split
    · exact iA_b (iA_b h)
    · exact iA_b h
theorem iA_cp {k g w : Nat} {x : Int32} {st : zAc} (h : iA st) : iA (caP k g w x st).2 := iA_sa (iA_b h)
theorem iA_ca {k g w : Nat} {x : Int32} {st : zAc} (h : iA st) : iA (caK k g w x st).2 := by
  unfold caK
  split
  · exact iA_cp (w := w) (iA_b h)
  · split
    · exact iA_cp (w := w) (iA_b h)
    · exact iA_cp h
theorem iA_sp {g w : Nat} {x : Int32} {st : zAc} (h : iA st) : iA (shP g w x st).2 := by
  unfold shP
  split
  · exact iA_b (body := 12) h
  · exact iA_b h
theorem iA_sh {k g w : Nat} {x : Int32} {st : zAc} (h : iA st) : iA (shK k g w x st).2 := by
  unfold shK
  split
  · exact iA_sp (iA_b h)
  · split
    · exact iA_sa (iA_sp (iA_b (iA_b h)))
    · exact iA_sp h
theorem iA_wp {k g w : Nat} {x : Int32} {st : zAc} (h : iA st) : iA (weP k g w x st).2 := iA_sh (iA_ca (iA_b h))
theorem iA_we {k g w : Nat} {x : Int32} {st : zAc} (h : iA st) : iA (weK k g w x st).2 := by
  unfold weK
  split
  · exact iA_ca (iA_wp (iA_b h))
  · exact iA_wp h
theorem iA_ac {y k g w : Nat} {x : Int32} {st : zAc} (h : iA st) : iA (acK y k g w x st).2 := by
  unfold acK
  split
  · exact iA_sa h
  · split
    · exact iA_ca h
    · split
      · exact iA_sh h
      · exact iA_we h
set_option maxHeartbeats 4000000 in
set_option maxRecDepth 100000 in
theorem c_Gi_sails_5 {G : zG} {n u : Nat} {ν : Nat → va_E} {a g w : Nat} {st : zAc} (ha : a ≠ 87) (hg : g ≤ 5) (hw : w ≤ 9) (hs : iA st) {x : Int32} : zMet G 1 M_Gi_sails [.ref a, .int x] n u (pth ν a 5 g w st) n u (zE (some (.int (saP g x st).1)) (pth ν a 5 g w (saP g x st).2)) := by
  refine z_start (lv := [.ref a, .int x]) K_Gi_sails rfl rfl (Nat.le_refl _) (Nat.le_refl _) (Nat.le_of_ble_eq_true rfl) rfl ?_
  refine z_al0 (pc' := 1) 0 rfl rfl ?_
  refine z_bipush (v := nI 10) (by decide) (pc' := 3) 1 rfl rfl ?_
  refine z_callU0 (pc' := 6) 2 rfl rfl k_Gi_27_5 (by first | assumption | exact pth_A ha | exact pth_87) (c_Gi_begins_5 ha hg hw (hs)) (by decide) (Nat.le_refl _) (Nat.le_refl _) rfl rfl (Nat.le_of_ble_eq_true rfl) ?_
  refine z_il1 (pc' := 7) 3 rfl rfl ?_
  refine z_iconst (v := nI 3) (by decide) (pc' := 8) 4 rfl rfl ?_
  refine z_imul (pc' := 9) 5 rfl rfl ?_
  refine z_al0 (pc' := 10) 6 rfl rfl ?_
  refine z_getf (pc' := 13) 7 rfl rfl f_Gi_7_5 (by first | assumption | exact pth_A ha | exact pth_87) (by rfl) ?_
  refine z_isub (pc' := 14) 8 rfl rfl ?_
  exact z_ireturn 9 rfl rfl (by first | rfl | exact zbo_nar) rfl rfl (by exact ⟨rfl, rfl⟩)
set_option maxHeartbeats 4000000 in
set_option maxRecDepth 100000 in
theorem c_Gi_sails_8 {G : zG} {n u : Nat} {ν : Nat → va_E} {a g w : Nat} {st : zAc} (ha : a ≠ 87) (hg : g ≤ 5) (hw : w ≤ 9) (hs : iA st) {x : Int32} : zMet G 1 M_Gi_sails [.ref a, .int x] n u (pth ν a 8 g w st) n u (zE (some (.int (saP g x st).1)) (pth ν a 8 g w (saP g x st).2)) := by
  refine z_start (lv := [.ref a, .int x]) K_Gi_sails rfl rfl (Nat.le_refl _) (Nat.le_refl _) (Nat.le_of_ble_eq_true rfl) rfl ?_
  refine z_al0 (pc' := 1) 0 rfl rfl ?_
  refine z_bipush (v := nI 10) (by decide) (pc' := 3) 1 rfl rfl ?_
  refine z_callU0 (pc' := 6) 2 rfl rfl k_Gi_27_8 (by first | assumption | exact pth_A ha | exact pth_87) (c_Gi_begins_8 ha hg hw (hs)) (by decide) (Nat.le_refl _) (Nat.le_refl _) rfl rfl (Nat.le_of_ble_eq_true rfl) ?_
  refine z_il1 (pc' := 7) 3 rfl rfl ?_
  refine z_iconst (v := nI 3) (by decide) (pc' := 8) 4 rfl rfl ?_
  refine z_imul (pc' := 9) 5 rfl rfl ?_
  refine z_al0 (pc' := 10) 6 rfl rfl ?_
  refine z_getf (pc' := 13) 7 rfl rfl f_Gi_7_8 (by first | assumption | exact pth_A ha | exact pth_87) (by rfl) ?_
  refine z_isub (pc' := 14) 8 rfl rfl ?_
  exact z_ireturn 9 rfl rfl (by first | rfl | exact zbo_nar) rfl rfl (by exact ⟨rfl, rfl⟩)
set_option maxHeartbeats 4000000 in
set_option maxRecDepth 100000 in
theorem c_Gi_sails_1 {G : zG} {n u : Nat} {ν : Nat → va_E} {a g w : Nat} {st : zAc} (ha : a ≠ 87) (hg : g ≤ 5) (hw : w ≤ 9) (hs : iA st) {x : Int32} : zMet G 1 M_Gi_sails [.ref a, .int x] n u (pth ν a 1 g w st) n u (zE (some (.int (saP g x st).1)) (pth ν a 1 g w (saP g x st).2)) := by
  refine z_start (lv := [.ref a, .int x]) K_Gi_sails rfl rfl (Nat.le_refl _) (Nat.le_refl _) (Nat.le_of_ble_eq_true rfl) rfl ?_
  refine z_al0 (pc' := 1) 0 rfl rfl ?_
  refine z_bipush (v := nI 10) (by decide) (pc' := 3) 1 rfl rfl ?_
  refine z_callU0 (pc' := 6) 2 rfl rfl k_Gi_27_1 (by first | assumption | exact pth_A ha | exact pth_87) (c_Gi_begins_1 ha hg hw (hs)) (by decide) (Nat.le_refl _) (Nat.le_refl _) rfl rfl (Nat.le_of_ble_eq_true rfl) ?_
  refine z_il1 (pc' := 7) 3 rfl rfl ?_
  refine z_iconst (v := nI 3) (by decide) (pc' := 8) 4 rfl rfl ?_
  refine z_imul (pc' := 9) 5 rfl rfl ?_
  refine z_al0 (pc' := 10) 6 rfl rfl ?_
  refine z_getf (pc' := 13) 7 rfl rfl f_Gi_7_1 (by first | assumption | exact pth_A ha | exact pth_87) (by rfl) ?_
  refine z_isub (pc' := 14) 8 rfl rfl ?_
  exact z_ireturn 9 rfl rfl (by first | rfl | exact zbo_nar) rfl rfl (by exact ⟨rfl, rfl⟩)
set_option maxHeartbeats 4000000 in
set_option maxRecDepth 100000 in
theorem c_Gi_sails_10 {G : zG} {n u : Nat} {ν : Nat → va_E} {a g w : Nat} {st : zAc} (ha : a ≠ 87) (hg : g ≤ 5) (hw : w ≤ 9) (hs : iA st) {x : Int32} : zMet G 1 M_Gi_sails [.ref a, .int x] n u (pth ν a 10 g w st) n u (zE (some (.int (saP g x st).1)) (pth ν a 10 g w (saP g x st).2)) := by
  refine z_start (lv := [.ref a, .int x]) K_Gi_sails rfl rfl (Nat.le_refl _) (Nat.le_refl _) (Nat.le_of_ble_eq_true rfl) rfl ?_
  refine z_al0 (pc' := 1) 0 rfl rfl ?_
  refine z_bipush (v := nI 10) (by decide) (pc' := 3) 1 rfl rfl ?_
  refine z_callU0 (pc' := 6) 2 rfl rfl k_Gi_27_10 (by first | assumption | exact pth_A ha | exact pth_87) (c_Gi_begins_10 ha hg hw (hs)) (by decide) (Nat.le_refl _) (Nat.le_refl _) rfl rfl (Nat.le_of_ble_eq_true rfl) ?_
  refine z_il1 (pc' := 7) 3 rfl rfl ?_
  refine z_iconst (v := nI 3) (by decide) (pc' := 8) 4 rfl rfl ?_
  refine z_imul (pc' := 9) 5 rfl rfl ?_
  refine z_al0 (pc' := 10) 6 rfl rfl ?_
  refine z_getf (pc' := 13) 7 rfl rfl f_Gi_7_10 (by first | assumption | exact pth_A ha | exact pth_87) (by rfl) ?_
  refine z_isub (pc' := 14) 8 rfl rfl ?_
  exact z_ireturn 9 rfl rfl (by first | rfl | exact zbo_nar) rfl rfl (by exact ⟨rfl, rfl⟩)
set_option maxHeartbeats 4000000 in
set_option maxRecDepth 100000 in
theorem c_Gi_sails_6 {G : zG} {n u : Nat} {ν : Nat → va_E} {a g w : Nat} {st : zAc} (ha : a ≠ 87) (hg : g ≤ 5) (hw : w ≤ 9) (hs : iA st) {x : Int32} : zMet G 1 M_Gi_sails [.ref a, .int x] n u (pth ν a 6 g w st) n u (zE (some (.int (saP g x st).1)) (pth ν a 6 g w (saP g x st).2)) := by
  refine z_start (lv := [.ref a, .int x]) K_Gi_sails rfl rfl (Nat.le_refl _) (Nat.le_refl _) (Nat.le_of_ble_eq_true rfl) rfl ?_
  refine z_al0 (pc' := 1) 0 rfl rfl ?_
  refine z_bipush (v := nI 10) (by decide) (pc' := 3) 1 rfl rfl ?_
  refine z_callU0 (pc' := 6) 2 rfl rfl k_Gi_27_6 (by first | assumption | exact pth_A ha | exact pth_87) (c_Gi_begins_6 ha hg hw (hs)) (by decide) (Nat.le_refl _) (Nat.le_refl _) rfl rfl (Nat.le_of_ble_eq_true rfl) ?_
  refine z_il1 (pc' := 7) 3 rfl rfl ?_
  refine z_iconst (v := nI 3) (by decide) (pc' := 8) 4 rfl rfl ?_
  refine z_imul (pc' := 9) 5 rfl rfl ?_
  refine z_al0 (pc' := 10) 6 rfl rfl ?_
  refine z_getf (pc' := 13) 7 rfl rfl f_Gi_7_6 (by first | assumption | exact pth_A ha | exact pth_87) (by rfl) ?_
  refine z_isub (pc' := 14) 8 rfl rfl ?_
  exact z_ireturn 9 rfl rfl (by first | rfl | exact zbo_nar) rfl rfl (by exact ⟨rfl, rfl⟩)
set_option maxHeartbeats 4000000 in
set_option maxRecDepth 100000 in
theorem c_Gi_sails_2 {G : zG} {n u : Nat} {ν : Nat → va_E} {a g w : Nat} {st : zAc} (ha : a ≠ 87) (hg : g ≤ 5) (hw : w ≤ 9) (hs : iA st) {x : Int32} : zMet G 1 M_Gi_sails [.ref a, .int x] n u (pth ν a 2 g w st) n u (zE (some (.int (saP g x st).1)) (pth ν a 2 g w (saP g x st).2)) := by
  refine z_start (lv := [.ref a, .int x]) K_Gi_sails rfl rfl (Nat.le_refl _) (Nat.le_refl _) (Nat.le_of_ble_eq_true rfl) rfl ?_
  refine z_al0 (pc' := 1) 0 rfl rfl ?_
  refine z_bipush (v := nI 10) (by decide) (pc' := 3) 1 rfl rfl ?_
  refine z_callU0 (pc' := 6) 2 rfl rfl k_Gi_27_2 (by first | assumption | exact pth_A ha | exact pth_87) (c_Gi_begins_2 ha hg hw (hs)) (by decide) (Nat.le_refl _) (Nat.le_refl _) rfl rfl (Nat.le_of_ble_eq_true rfl) ?_
  refine z_il1 (pc' := 7) 3 rfl rfl ?_
  refine z_iconst (v := nI 3) (by decide) (pc' := 8) 4 rfl rfl ?_
  refine z_imul (pc' := 9) 5 rfl rfl ?_
  refine z_al0 (pc' := 10) 6 rfl rfl ?_
  refine z_getf (pc' := 13) 7 rfl rfl f_Gi_7_2 (by first | assumption | exact pth_A ha | exact pth_87) (by rfl) ?_
  refine z_isub (pc' := 14) 8 rfl rfl ?_
  exact z_ireturn 9 rfl rfl (by first | rfl | exact zbo_nar) rfl rfl (by exact ⟨rfl, rfl⟩)
set_option maxHeartbeats 4000000 in
set_option maxRecDepth 100000 in
theorem c_Sh_sails_8 {G : zG} {n u : Nat} {ν : Nat → va_E} {a g w : Nat} {st : zAc} (ha : a ≠ 87) (hg : g ≤ 5) (hw : w ≤ 9) (hs : iA st) {x : Int32} : zMet G 2 M_Sh_sails [.ref a, .int x] n u (pth ν a 8 g w st) n u (zE (some (.int (saK 1 g x st).1)) (pth ν a 8 g w (saK 1 g x st).2)) := by
  refine z_start (lv := [.ref a, .int x]) K_Sh_sails rfl rfl (Nat.le_refl _) (Nat.le_refl _) (Nat.le_of_ble_eq_true rfl) rfl ?_
  refine z_al0 (pc' := 1) 0 rfl rfl ?_
  refine z_bipush (v := nI 20) (by decide) (pc' := 3) 1 rfl rfl ?_
  refine z_callU0 (pc' := 6) 2 rfl rfl k_Sh_7_8 (by first | assumption | exact pth_A ha | exact pth_87) (c_Gi_begins_8 ha hg hw (hs)) (by decide) (Nat.le_refl _) (Nat.le_refl _) rfl rfl (Nat.le_of_ble_eq_true rfl) ?_
  refine z_al0 (pc' := 7) 3 rfl rfl ?_
  refine z_il1 (pc' := 8) 4 rfl rfl ?_
  refine z_callP1 (pc' := 11) 5 rfl rfl k_Sh_13 (by first | assumption | exact pth_A ha | exact pth_87) rfl (c_Gi_sails_8 ha hg hw (iA_b hs)) (by decide) (Nat.le_refl _) (Nat.le_refl _) rfl rfl (Nat.le_of_ble_eq_true rfl) ?_
  refine z_iconst (v := nI 2) (by decide) (pc' := 12) 6 rfl rfl ?_
  refine z_isub (pc' := 13) 7 rfl rfl ?_
  exact z_ireturn 8 rfl rfl (by first | rfl | exact zbo_nar) rfl rfl (by exact ⟨rfl, rfl⟩)
set_option maxHeartbeats 4000000 in
set_option maxRecDepth 100000 in
theorem c_Tw_sails_10 {G : zG} {n u : Nat} {ν : Nat → va_E} {a g w : Nat} {st : zAc} (ha : a ≠ 87) (hg : g ≤ 5) (hw : w ≤ 9) (hs : iA st) {x : Int32} : zMet G 2 M_Tw_sails [.ref a, .int x] n u (pth ν a 10 g w st) n u (zE (some (.int (saK 3 g x st).1)) (pth ν a 10 g w (saK 3 g x st).2)) := by
  refine z_start (lv := [.ref a, .int x]) K_Tw_sails rfl rfl (Nat.le_refl _) (Nat.le_refl _) (Nat.le_of_ble_eq_true rfl) rfl ?_
  refine z_al0 (pc' := 1) 0 rfl rfl ?_
  refine z_bipush (v := nI 50) (by decide) (pc' := 3) 1 rfl rfl ?_
  refine z_callU0 (pc' := 6) 2 rfl rfl k_Tw_7_10 (by first | assumption | exact pth_A ha | exact pth_87) (c_Gi_begins_10 ha hg hw (hs)) (by decide) (Nat.le_refl _) (Nat.le_refl _) rfl rfl (Nat.le_of_ble_eq_true rfl) ?_
  refine z_al0 (pc' := 7) 3 rfl rfl ?_
  refine z_il1 (pc' := 8) 4 rfl rfl ?_
  refine z_iconst (v := nI 1) (by decide) (pc' := 9) 5 rfl rfl ?_
  refine z_iadd (pc' := 10) 6 rfl rfl ?_
  refine z_callQ1 (pc' := 13) 7 rfl rfl k_Tw_13 (by first | assumption | exact pth_A ha | exact pth_87) rfl (c_Gi_sails_10 ha hg hw (iA_b hs)) (by decide) (Nat.le_refl _) (Nat.le_refl _) rfl rfl (Nat.le_of_ble_eq_true rfl) ?_
  exact z_ireturn 8 rfl rfl (by first | rfl | exact zbo_nar) rfl rfl (by exact ⟨rfl, rfl⟩)
set_option maxHeartbeats 4000000 in
set_option maxRecDepth 100000 in
theorem c_Gi_calls_5 {G : zG} {n u : Nat} {ν : Nat → va_E} {a g w : Nat} {st : zAc} (ha : a ≠ 87) (hg : g ≤ 5) (hw : w ≤ 9) (hs : iA st) {x : Int32} : zMet G 3 M_Gi_calls [.ref a, .int x] n u (pth ν a 5 g w st) n u (zE (some (.int (caP 0 g w x st).1)) (pth ν a 5 g w (caP 0 g w x st).2)) := by
  refine z_start (lv := [.ref a, .int x]) K_Gi_calls rfl rfl (Nat.le_refl _) (Nat.le_refl _) (Nat.le_of_ble_eq_true rfl) rfl ?_
  refine z_al0 (pc' := 1) 0 rfl rfl ?_
  refine z_bipush (v := nI 11) (by decide) (pc' := 3) 1 rfl rfl ?_
  refine z_callU0 (pc' := 6) 2 rfl rfl k_Gi_27_5 (by first | assumption | exact pth_A ha | exact pth_87) (c_Gi_begins_5 ha hg hw (hs)) (by decide) (Nat.le_refl _) (Nat.le_refl _) rfl rfl (Nat.le_of_ble_eq_true rfl) ?_
  refine z_al0 (pc' := 7) 3 rfl rfl ?_
  refine z_il1 (pc' := 8) 4 rfl rfl ?_
  refine z_callU1 (pc' := 11) 5 rfl rfl k_Gi_31_5 (by first | assumption | exact pth_A ha | exact pth_87) (c_Gi_sails_5 ha hg hw (iA_b hs)) (by decide) (Nat.le_refl _) (Nat.le_refl _) rfl rfl (Nat.le_of_ble_eq_true rfl) ?_
  refine z_al0 (pc' := 12) 6 rfl rfl ?_
  refine z_getf (pc' := 15) 7 rfl rfl f_Gi_13_5 (by first | assumption | exact pth_A ha | exact pth_87) (by rfl) ?_
  refine z_iadd (pc' := 16) 8 rfl rfl ?_
  exact z_ireturn 9 rfl rfl (by first | rfl | exact zbo_nar) rfl rfl (by exact ⟨rfl, rfl⟩)
set_option maxHeartbeats 4000000 in
set_option maxRecDepth 100000 in
theorem c_Gi_calls_8 {G : zG} {n u : Nat} {ν : Nat → va_E} {a g w : Nat} {st : zAc} (ha : a ≠ 87) (hg : g ≤ 5) (hw : w ≤ 9) (hs : iA st) {x : Int32} : zMet G 3 M_Gi_calls [.ref a, .int x] n u (pth ν a 8 g w st) n u (zE (some (.int (caP 1 g w x st).1)) (pth ν a 8 g w (caP 1 g w x st).2)) := by
  refine z_start (lv := [.ref a, .int x]) K_Gi_calls rfl rfl (Nat.le_refl _) (Nat.le_refl _) (Nat.le_of_ble_eq_true rfl) rfl ?_
  refine z_al0 (pc' := 1) 0 rfl rfl ?_
  refine z_bipush (v := nI 11) (by decide) (pc' := 3) 1 rfl rfl ?_
  refine z_callU0 (pc' := 6) 2 rfl rfl k_Gi_27_8 (by first | assumption | exact pth_A ha | exact pth_87) (c_Gi_begins_8 ha hg hw (hs)) (by decide) (Nat.le_refl _) (Nat.le_refl _) rfl rfl (Nat.le_of_ble_eq_true rfl) ?_
  refine z_al0 (pc' := 7) 3 rfl rfl ?_
  refine z_il1 (pc' := 8) 4 rfl rfl ?_
  refine z_callU1 (pc' := 11) 5 rfl rfl k_Gi_31_8 (by first | assumption | exact pth_A ha | exact pth_87) (c_Sh_sails_8 ha hg hw (iA_b hs)) (by decide) (Nat.le_refl _) (Nat.le_refl _) rfl rfl (Nat.le_of_ble_eq_true rfl) ?_
  refine z_al0 (pc' := 12) 6 rfl rfl ?_
  refine z_getf (pc' := 15) 7 rfl rfl f_Gi_13_8 (by first | assumption | exact pth_A ha | exact pth_87) (by rfl) ?_
  refine z_iadd (pc' := 16) 8 rfl rfl ?_
  exact z_ireturn 9 rfl rfl (by first | rfl | exact zbo_nar) rfl rfl (by exact ⟨rfl, rfl⟩)
set_option maxHeartbeats 4000000 in
set_option maxRecDepth 100000 in
theorem c_Gi_calls_1 {G : zG} {n u : Nat} {ν : Nat → va_E} {a g w : Nat} {st : zAc} (ha : a ≠ 87) (hg : g ≤ 5) (hw : w ≤ 9) (hs : iA st) {x : Int32} : zMet G 3 M_Gi_calls [.ref a, .int x] n u (pth ν a 1 g w st) n u (zE (some (.int (caP 2 g w x st).1)) (pth ν a 1 g w (caP 2 g w x st).2)) := by
  refine z_start (lv := [.ref a, .int x]) K_Gi_calls rfl rfl (Nat.le_refl _) (Nat.le_refl _) (Nat.le_of_ble_eq_true rfl) rfl ?_
  refine z_al0 (pc' := 1) 0 rfl rfl ?_
  refine z_bipush (v := nI 11) (by decide) (pc' := 3) 1 rfl rfl ?_
  refine z_callU0 (pc' := 6) 2 rfl rfl k_Gi_27_1 (by first | assumption | exact pth_A ha | exact pth_87) (c_Gi_begins_1 ha hg hw (hs)) (by decide) (Nat.le_refl _) (Nat.le_refl _) rfl rfl (Nat.le_of_ble_eq_true rfl) ?_
  refine z_al0 (pc' := 7) 3 rfl rfl ?_
  refine z_il1 (pc' := 8) 4 rfl rfl ?_
  refine z_callU1 (pc' := 11) 5 rfl rfl k_Gi_31_1 (by first | assumption | exact pth_A ha | exact pth_87) (c_Gi_sails_1 ha hg hw (iA_b hs)) (by decide) (Nat.le_refl _) (Nat.le_refl _) rfl rfl (Nat.le_of_ble_eq_true rfl) ?_
  refine z_al0 (pc' := 12) 6 rfl rfl ?_
  refine z_getf (pc' := 15) 7 rfl rfl f_Gi_13_1 (by first | assumption | exact pth_A ha | exact pth_87) (by rfl) ?_
  refine z_iadd (pc' := 16) 8 rfl rfl ?_
  exact z_ireturn 9 rfl rfl (by first | rfl | exact zbo_nar) rfl rfl (by exact ⟨rfl, rfl⟩)
set_option maxHeartbeats 4000000 in
set_option maxRecDepth 100000 in
theorem c_Gi_calls_10 {G : zG} {n u : Nat} {ν : Nat → va_E} {a g w : Nat} {st : zAc} (ha : a ≠ 87) (hg : g ≤ 5) (hw : w ≤ 9) (hs : iA st) {x : Int32} : zMet G 3 M_Gi_calls [.ref a, .int x] n u (pth ν a 10 g w st) n u (zE (some (.int (caP 3 g w x st).1)) (pth ν a 10 g w (caP 3 g w x st).2)) := by
  refine z_start (lv := [.ref a, .int x]) K_Gi_calls rfl rfl (Nat.le_refl _) (Nat.le_refl _) (Nat.le_of_ble_eq_true rfl) rfl ?_
  refine z_al0 (pc' := 1) 0 rfl rfl ?_
  refine z_bipush (v := nI 11) (by decide) (pc' := 3) 1 rfl rfl ?_
  refine z_callU0 (pc' := 6) 2 rfl rfl k_Gi_27_10 (by first | assumption | exact pth_A ha | exact pth_87) (c_Gi_begins_10 ha hg hw (hs)) (by decide) (Nat.le_refl _) (Nat.le_refl _) rfl rfl (Nat.le_of_ble_eq_true rfl) ?_
  refine z_al0 (pc' := 7) 3 rfl rfl ?_
  refine z_il1 (pc' := 8) 4 rfl rfl ?_
  refine z_callU1 (pc' := 11) 5 rfl rfl k_Gi_31_10 (by first | assumption | exact pth_A ha | exact pth_87) (c_Tw_sails_10 ha hg hw (iA_b hs)) (by decide) (Nat.le_refl _) (Nat.le_refl _) rfl rfl (Nat.le_of_ble_eq_true rfl) ?_
  refine z_al0 (pc' := 12) 6 rfl rfl ?_
  refine z_getf (pc' := 15) 7 rfl rfl f_Gi_13_10 (by first | assumption | exact pth_A ha | exact pth_87) (by rfl) ?_
  refine z_iadd (pc' := 16) 8 rfl rfl ?_
  exact z_ireturn 9 rfl rfl (by first | rfl | exact zbo_nar) rfl rfl (by exact ⟨rfl, rfl⟩)
set_option maxHeartbeats 4000000 in
set_option maxRecDepth 100000 in
theorem c_Gi_calls_6 {G : zG} {n u : Nat} {ν : Nat → va_E} {a g w : Nat} {st : zAc} (ha : a ≠ 87) (hg : g ≤ 5) (hw : w ≤ 9) (hs : iA st) {x : Int32} : zMet G 3 M_Gi_calls [.ref a, .int x] n u (pth ν a 6 g w st) n u (zE (some (.int (caP 4 g w x st).1)) (pth ν a 6 g w (caP 4 g w x st).2)) := by
  refine z_start (lv := [.ref a, .int x]) K_Gi_calls rfl rfl (Nat.le_refl _) (Nat.le_refl _) (Nat.le_of_ble_eq_true rfl) rfl ?_
  refine z_al0 (pc' := 1) 0 rfl rfl ?_
  refine z_bipush (v := nI 11) (by decide) (pc' := 3) 1 rfl rfl ?_
  refine z_callU0 (pc' := 6) 2 rfl rfl k_Gi_27_6 (by first | assumption | exact pth_A ha | exact pth_87) (c_Gi_begins_6 ha hg hw (hs)) (by decide) (Nat.le_refl _) (Nat.le_refl _) rfl rfl (Nat.le_of_ble_eq_true rfl) ?_
  refine z_al0 (pc' := 7) 3 rfl rfl ?_
  refine z_il1 (pc' := 8) 4 rfl rfl ?_
  refine z_callU1 (pc' := 11) 5 rfl rfl k_Gi_31_6 (by first | assumption | exact pth_A ha | exact pth_87) (c_Gi_sails_6 ha hg hw (iA_b hs)) (by decide) (Nat.le_refl _) (Nat.le_refl _) rfl rfl (Nat.le_of_ble_eq_true rfl) ?_
  refine z_al0 (pc' := 12) 6 rfl rfl ?_
  refine z_getf (pc' := 15) 7 rfl rfl f_Gi_13_6 (by first | assumption | exact pth_A ha | exact pth_87) (by rfl) ?_
  refine z_iadd (pc' := 16) 8 rfl rfl ?_
  exact z_ireturn 9 rfl rfl (by first | rfl | exact zbo_nar) rfl rfl (by exact ⟨rfl, rfl⟩)
set_option maxHeartbeats 4000000 in
set_option maxRecDepth 100000 in
theorem c_Gi_calls_2 {G : zG} {n u : Nat} {ν : Nat → va_E} {a g w : Nat} {st : zAc} (ha : a ≠ 87) (hg : g ≤ 5) (hw : w ≤ 9) (hs : iA st) {x : Int32} : zMet G 3 M_Gi_calls [.ref a, .int x] n u (pth ν a 2 g w st) n u (zE (some (.int (caP 5 g w x st).1)) (pth ν a 2 g w (caP 5 g w x st).2)) := by
  refine z_start (lv := [.ref a, .int x]) K_Gi_calls rfl rfl (Nat.le_refl _) (Nat.le_refl _) (Nat.le_of_ble_eq_true rfl) rfl ?_
  refine z_al0 (pc' := 1) 0 rfl rfl ?_
  refine z_bipush (v := nI 11) (by decide) (pc' := 3) 1 rfl rfl ?_
  refine z_callU0 (pc' := 6) 2 rfl rfl k_Gi_27_2 (by first | assumption | exact pth_A ha | exact pth_87) (c_Gi_begins_2 ha hg hw (hs)) (by decide) (Nat.le_refl _) (Nat.le_refl _) rfl rfl (Nat.le_of_ble_eq_true rfl) ?_
  refine z_al0 (pc' := 7) 3 rfl rfl ?_
  refine z_il1 (pc' := 8) 4 rfl rfl ?_
  refine z_callU1 (pc' := 11) 5 rfl rfl k_Gi_31_2 (by first | assumption | exact pth_A ha | exact pth_87) (c_Gi_sails_2 ha hg hw (iA_b hs)) (by decide) (Nat.le_refl _) (Nat.le_refl _) rfl rfl (Nat.le_of_ble_eq_true rfl) ?_
  refine z_al0 (pc' := 12) 6 rfl rfl ?_
  refine z_getf (pc' := 15) 7 rfl rfl f_Gi_13_2 (by first | assumption | exact pth_A ha | exact pth_87) (by rfl) ?_
  refine z_iadd (pc' := 16) 8 rfl rfl ?_
  exact z_ireturn 9 rfl rfl (by first | rfl | exact zbo_nar) rfl rfl (by exact ⟨rfl, rfl⟩)
set_option maxHeartbeats 4000000 in
set_option maxRecDepth 100000 in
theorem c_Br_calls_1 {G : zG} {n u : Nat} {ν : Nat → va_E} {a g w : Nat} {st : zAc} (ha : a ≠ 87) (hg : g ≤ 5) (hw : w ≤ 9) (hs : iA st) {x : Int32} : zMet G 4 M_Br_calls [.ref a, .int x] n u (pth ν a 1 g w st) n u (zE (some (.int (caK 2 g w x st).1)) (pth ν a 1 g w (caK 2 g w x st).2)) := by
  refine z_start (lv := [.ref a, .int x]) K_Br_calls rfl rfl (Nat.le_refl _) (Nat.le_refl _) (Nat.le_of_ble_eq_true rfl) rfl ?_
  refine z_al0 (pc' := 1) 0 rfl rfl ?_
  refine z_bipush (v := nI 30) (by decide) (pc' := 3) 1 rfl rfl ?_
  refine z_callU0 (pc' := 6) 2 rfl rfl k_Br_7_1 (by first | assumption | exact pth_A ha | exact pth_87) (c_Gi_begins_1 ha hg hw (hs)) (by decide) (Nat.le_refl _) (Nat.le_refl _) rfl rfl (Nat.le_of_ble_eq_true rfl) ?_
  refine z_al0 (pc' := 7) 3 rfl rfl ?_
  refine z_il1 (pc' := 8) 4 rfl rfl ?_
  refine z_callP1 (pc' := 11) 5 rfl rfl k_Br_13 (by first | assumption | exact pth_A ha | exact pth_87) rfl (c_Gi_calls_1 ha hg hw (iA_b hs)) (by decide) (Nat.le_refl _) (Nat.le_refl _) rfl rfl (Nat.le_of_ble_eq_true rfl) ?_
  refine z_al0 (pc' := 12) 6 rfl rfl ?_
  refine z_getr (pc' := 15) 7 rfl rfl f_Br_17_1 (by first | assumption | exact pth_A ha | exact pth_87) (by rfl) ?_
  refine z_ixor (pc' := 16) 8 rfl rfl ?_
  exact z_ireturn 9 rfl rfl (by first | rfl | exact zbo_nar) rfl rfl (by exact ⟨rfl, rfl⟩)
set_option maxHeartbeats 4000000 in
set_option maxRecDepth 100000 in
theorem c_Br_calls_10 {G : zG} {n u : Nat} {ν : Nat → va_E} {a g w : Nat} {st : zAc} (ha : a ≠ 87) (hg : g ≤ 5) (hw : w ≤ 9) (hs : iA st) {x : Int32} : zMet G 4 M_Br_calls [.ref a, .int x] n u (pth ν a 10 g w st) n u (zE (some (.int (caK 3 g w x st).1)) (pth ν a 10 g w (caK 3 g w x st).2)) := by
  refine z_start (lv := [.ref a, .int x]) K_Br_calls rfl rfl (Nat.le_refl _) (Nat.le_refl _) (Nat.le_of_ble_eq_true rfl) rfl ?_
  refine z_al0 (pc' := 1) 0 rfl rfl ?_
  refine z_bipush (v := nI 30) (by decide) (pc' := 3) 1 rfl rfl ?_
  refine z_callU0 (pc' := 6) 2 rfl rfl k_Br_7_10 (by first | assumption | exact pth_A ha | exact pth_87) (c_Gi_begins_10 ha hg hw (hs)) (by decide) (Nat.le_refl _) (Nat.le_refl _) rfl rfl (Nat.le_of_ble_eq_true rfl) ?_
  refine z_al0 (pc' := 7) 3 rfl rfl ?_
  refine z_il1 (pc' := 8) 4 rfl rfl ?_
  refine z_callP1 (pc' := 11) 5 rfl rfl k_Br_13 (by first | assumption | exact pth_A ha | exact pth_87) rfl (c_Gi_calls_10 ha hg hw (iA_b hs)) (by decide) (Nat.le_refl _) (Nat.le_refl _) rfl rfl (Nat.le_of_ble_eq_true rfl) ?_
  refine z_al0 (pc' := 12) 6 rfl rfl ?_
  refine z_getr (pc' := 15) 7 rfl rfl f_Br_17_10 (by first | assumption | exact pth_A ha | exact pth_87) (by rfl) ?_
  refine z_ixor (pc' := 16) 8 rfl rfl ?_
  exact z_ireturn 9 rfl rfl (by first | rfl | exact zbo_nar) rfl rfl (by exact ⟨rfl, rfl⟩)
set_option maxHeartbeats 4000000 in
set_option maxRecDepth 100000 in
theorem c_Ca_calls_2 {G : zG} {n u : Nat} {ν : Nat → va_E} {a g w : Nat} {st : zAc} (ha : a ≠ 87) (hg : g ≤ 5) (hw : w ≤ 9) (hs : iA st) {x : Int32} : zMet G 4 M_Ca_calls [.ref a, .int x] n u (pth ν a 2 g w st) n u (zE (some (.int (caK 5 g w x st).1)) (pth ν a 2 g w (caK 5 g w x st).2)) := by
  refine z_start (lv := [.ref a, .int x]) K_Ca_calls rfl rfl (Nat.le_refl _) (Nat.le_refl _) (Nat.le_of_ble_eq_true rfl) rfl ?_
  refine z_al0 (pc' := 1) 0 rfl rfl ?_
  refine z_bipush (v := nI 60) (by decide) (pc' := 3) 1 rfl rfl ?_
  refine z_callU0 (pc' := 6) 2 rfl rfl k_Ca_7_2 (by first | assumption | exact pth_A ha | exact pth_87) (c_Gi_begins_2 ha hg hw (hs)) (by decide) (Nat.le_refl _) (Nat.le_refl _) rfl rfl (Nat.le_of_ble_eq_true rfl) ?_
  refine z_iconst (v := nI 1) (by decide) (pc' := 7) 3 rfl rfl ?_
  refine z_al0 (pc' := 8) 4 rfl rfl ?_
  refine z_il1 (pc' := 9) 5 rfl rfl ?_
  refine z_callQ1 (pc' := 12) 6 rfl rfl k_Ca_13 (by first | assumption | exact pth_A ha | exact pth_87) rfl (c_Gi_calls_2 ha hg hw (iA_b hs)) (by decide) (Nat.le_refl _) (Nat.le_refl _) rfl rfl (Nat.le_of_ble_eq_true rfl) ?_
  refine z_isub (pc' := 13) 7 rfl rfl ?_
  exact z_ireturn 8 rfl rfl (by first | rfl | exact zbo_nar) rfl rfl (by exact ⟨rfl, rfl⟩)
theorem sub_z {g w : Nat} (hg : g ≤ 9) (hw : w ≤ 9) : nI g - nI w = 0 ↔ g = w := by
  rw [← Int32.toInt_inj, pk_sub_toInt (by omega) (by omega)]
  show (g : Int) - w = 0 ↔ _
  omega
theorem pth_sP {ν : Nat → va_E} {a ci g w : Nat} {st : zAc} (h : a ≠ 87) : zu (pth ν a ci g w st) a (.inr (ci, [.int (nI g), .int (nI w), .ref 87, .int (nI st.1), .int (nI 1)])) = pth ν a ci g w (st.1, true, st.2.2) := by
  obtain ⟨b, p, tr⟩ := st
  exact pth_sp h
set_option maxHeartbeats 4000000 in
set_option maxRecDepth 100000 in
theorem c_Gi_shares_5 {G : zG} {n u : Nat} {ν : Nat → va_E} {a g w : Nat} {st : zAc} (ha : a ≠ 87) (hg : g ≤ 5) (hw : w ≤ 9) (hs : iA st) {x : Int32} : zMet G 1 M_Gi_shares [.ref a, .int x] n u (pth ν a 5 g w st) n u (zE (some (.int (shP g w x st).1)) (pth ν a 5 g w (shP g w x st).2)) := by
  refine z_start (lv := [.ref a, .int x]) K_Gi_shares rfl rfl (Nat.le_refl _) (Nat.le_refl _) (Nat.le_of_ble_eq_true rfl) rfl ?_
  refine z_al0 (pc' := 1) 0 rfl rfl ?_
  refine z_bipush (v := nI 12) (by decide) (pc' := 3) 1 rfl rfl ?_
  refine z_callU0 (pc' := 6) 2 rfl rfl k_Gi_27_5 (by first | assumption | exact pth_A ha | exact pth_87) (c_Gi_begins_5 ha hg hw (hs)) (by decide) (Nat.le_refl _) (Nat.le_refl _) rfl rfl (Nat.le_of_ble_eq_true rfl) ?_
  refine z_al0 (pc' := 7) 3 rfl rfl ?_
  refine z_getf (pc' := 10) 4 rfl rfl f_Gi_7_5 (by first | assumption | exact pth_A ha | exact pth_87) (by rfl) ?_
  refine z_al0 (pc' := 11) 5 rfl rfl ?_
  refine z_getf (pc' := 14) 6 rfl rfl f_Gi_13_5 (by first | assumption | exact pth_A ha | exact pth_87) (by rfl) ?_
  first | refine z_icmp_neN (pc' := 17) 7 rfl rfl (tgt := 24) rfl (by omega) (by omega) (fun h14 => ?_) (fun h14 => ?_) | refine z_icmp_ne (pc' := 17) 7 rfl rfl (tgt := 24) rfl (fun h14 => ?_) (fun h14 => ?_)
  · refine z_il1 (pc' := 25) 13 rfl rfl ?_
    refine z_al0 (pc' := 26) 14 rfl rfl ?_
    refine z_getf (pc' := 29) 15 rfl rfl f_Gi_7_5 (by first | assumption | exact pth_A ha | exact pth_87) (by rfl) ?_
    refine z_al0 (pc' := 30) 16 rfl rfl ?_
    refine z_getf (pc' := 33) 17 rfl rfl f_Gi_13_5 (by first | assumption | exact pth_A ha | exact pth_87) (by rfl) ?_
    refine z_isub (pc' := 34) 18 rfl rfl ?_
    refine z_irem (by exact fun z => h14 ((sub_z (by omega) (by omega)).mp z)) (pc' := 35) 19 rfl rfl ?_
    exact z_ireturn 20 rfl rfl (by first | rfl | exact zbo_nar) rfl rfl (by refine ⟨by rw [shP, if_neg h14], by rw [shP, if_neg h14]⟩)
  · refine z_al0 (pc' := 18) 8 rfl rfl ?_
    refine z_iconst (v := nI 1) (by decide) (pc' := 19) 9 rfl rfl ?_
    refine z_putf (pc' := 22) 10 rfl rfl f_Gi_20_5 (by first | assumption | exact pth_A ha | exact pth_87) rfl rfl (by rfl) (by rfl) ?_
    dsimp only [List.set]
    rw [pth_sP ha]
    refine z_iconst (v := nI 0) (by decide) (pc' := 23) 11 rfl rfl ?_
    exact z_ireturn 12 rfl rfl (by first | rfl | exact zbo_nar) rfl rfl (by refine ⟨by rw [shP, if_pos h14], by rw [shP, if_pos h14]⟩)
set_option maxHeartbeats 4000000 in
set_option maxRecDepth 100000 in
theorem c_Gi_shares_8 {G : zG} {n u : Nat} {ν : Nat → va_E} {a g w : Nat} {st : zAc} (ha : a ≠ 87) (hg : g ≤ 5) (hw : w ≤ 9) (hs : iA st) {x : Int32} : zMet G 1 M_Gi_shares [.ref a, .int x] n u (pth ν a 8 g w st) n u (zE (some (.int (shP g w x st).1)) (pth ν a 8 g w (shP g w x st).2)) := by
  refine z_start (lv := [.ref a, .int x]) K_Gi_shares rfl rfl (Nat.le_refl _) (Nat.le_refl _) (Nat.le_of_ble_eq_true rfl) rfl ?_
  refine z_al0 (pc' := 1) 0 rfl rfl ?_
  refine z_bipush (v := nI 12) (by decide) (pc' := 3) 1 rfl rfl ?_
  refine z_callU0 (pc' := 6) 2 rfl rfl k_Gi_27_8 (by first | assumption | exact pth_A ha | exact pth_87) (c_Gi_begins_8 ha hg hw (hs)) (by decide) (Nat.le_refl _) (Nat.le_refl _) rfl rfl (Nat.le_of_ble_eq_true rfl) ?_
  refine z_al0 (pc' := 7) 3 rfl rfl ?_
  refine z_getf (pc' := 10) 4 rfl rfl f_Gi_7_8 (by first | assumption | exact pth_A ha | exact pth_87) (by rfl) ?_
  refine z_al0 (pc' := 11) 5 rfl rfl ?_
  refine z_getf (pc' := 14) 6 rfl rfl f_Gi_13_8 (by first | assumption | exact pth_A ha | exact pth_87) (by rfl) ?_
  first | refine z_icmp_neN (pc' := 17) 7 rfl rfl (tgt := 24) rfl (by omega) (by omega) (fun h14 => ?_) (fun h14 => ?_) | refine z_icmp_ne (pc' := 17) 7 rfl rfl (tgt := 24) rfl (fun h14 => ?_) (fun h14 => ?_)
  · refine z_il1 (pc' := 25) 13 rfl rfl ?_
    refine z_al0 (pc' := 26) 14 rfl rfl ?_
    refine z_getf (pc' := 29) 15 rfl rfl f_Gi_7_8 (by first | assumption | exact pth_A ha | exact pth_87) (by rfl) ?_
    refine z_al0 (pc' := 30) 16 rfl rfl ?_
    refine z_getf (pc' := 33) 17 rfl rfl f_Gi_13_8 (by first | assumption | exact pth_A ha | exact pth_87) (by rfl) ?_
    refine z_isub (pc' := 34) 18 rfl rfl ?_
    refine z_irem (by exact fun z => h14 ((sub_z (by omega) (by omega)).mp z)) (pc' := 35) 19 rfl rfl ?_
    exact z_ireturn 20 rfl rfl (by first | rfl | exact zbo_nar) rfl rfl (by refine ⟨by rw [shP, if_neg h14], by rw [shP, if_neg h14]⟩)
  · refine z_al0 (pc' := 18) 8 rfl rfl ?_
    refine z_iconst (v := nI 1) (by decide) (pc' := 19) 9 rfl rfl ?_
    refine z_putf (pc' := 22) 10 rfl rfl f_Gi_20_8 (by first | assumption | exact pth_A ha | exact pth_87) rfl rfl (by rfl) (by rfl) ?_
    dsimp only [List.set]
    rw [pth_sP ha]
    refine z_iconst (v := nI 0) (by decide) (pc' := 23) 11 rfl rfl ?_
    exact z_ireturn 12 rfl rfl (by first | rfl | exact zbo_nar) rfl rfl (by refine ⟨by rw [shP, if_pos h14], by rw [shP, if_pos h14]⟩)
set_option maxHeartbeats 4000000 in
set_option maxRecDepth 100000 in
theorem c_Gi_shares_1 {G : zG} {n u : Nat} {ν : Nat → va_E} {a g w : Nat} {st : zAc} (ha : a ≠ 87) (hg : g ≤ 5) (hw : w ≤ 9) (hs : iA st) {x : Int32} : zMet G 1 M_Gi_shares [.ref a, .int x] n u (pth ν a 1 g w st) n u (zE (some (.int (shP g w x st).1)) (pth ν a 1 g w (shP g w x st).2)) := by
  refine z_start (lv := [.ref a, .int x]) K_Gi_shares rfl rfl (Nat.le_refl _) (Nat.le_refl _) (Nat.le_of_ble_eq_true rfl) rfl ?_
  refine z_al0 (pc' := 1) 0 rfl rfl ?_
  refine z_bipush (v := nI 12) (by decide) (pc' := 3) 1 rfl rfl ?_
  refine z_callU0 (pc' := 6) 2 rfl rfl k_Gi_27_1 (by first | assumption | exact pth_A ha | exact pth_87) (c_Gi_begins_1 ha hg hw (hs)) (by decide) (Nat.le_refl _) (Nat.le_refl _) rfl rfl (Nat.le_of_ble_eq_true rfl) ?_
  refine z_al0 (pc' := 7) 3 rfl rfl ?_
  refine z_getf (pc' := 10) 4 rfl rfl f_Gi_7_1 (by first | assumption | exact pth_A ha | exact pth_87) (by rfl) ?_
  refine z_al0 (pc' := 11) 5 rfl rfl ?_
  refine z_getf (pc' := 14) 6 rfl rfl f_Gi_13_1 (by first | assumption | exact pth_A ha | exact pth_87) (by rfl) ?_
  first | refine z_icmp_neN (pc' := 17) 7 rfl rfl (tgt := 24) rfl (by omega) (by omega) (fun h14 => ?_) (fun h14 => ?_) | refine z_icmp_ne (pc' := 17) 7 rfl rfl (tgt := 24) rfl (fun h14 => ?_) (fun h14 => ?_)
  · refine z_il1 (pc' := 25) 13 rfl rfl ?_
    refine z_al0 (pc' := 26) 14 rfl rfl ?_
    refine z_getf (pc' := 29) 15 rfl rfl f_Gi_7_1 (by first | assumption | exact pth_A ha | exact pth_87) (by rfl) ?_
    refine z_al0 (pc' := 30) 16 rfl rfl ?_
    refine z_getf (pc' := 33) 17 rfl rfl f_Gi_13_1 (by first | assumption | exact pth_A ha | exact pth_87) (by rfl) ?_
    refine z_isub (pc' := 34) 18 rfl rfl ?_
    refine z_irem (by exact fun z => h14 ((sub_z (by omega) (by omega)).mp z)) (pc' := 35) 19 rfl rfl ?_
    exact z_ireturn 20 rfl rfl (by first | rfl | exact zbo_nar) rfl rfl (by refine ⟨by rw [shP, if_neg h14], by rw [shP, if_neg h14]⟩)
  · refine z_al0 (pc' := 18) 8 rfl rfl ?_
    refine z_iconst (v := nI 1) (by decide) (pc' := 19) 9 rfl rfl ?_
    refine z_putf (pc' := 22) 10 rfl rfl f_Gi_20_1 (by first | assumption | exact pth_A ha | exact pth_87) rfl rfl (by rfl) (by rfl) ?_
    dsimp only [List.set]
    rw [pth_sP ha]
    refine z_iconst (v := nI 0) (by decide) (pc' := 23) 11 rfl rfl ?_
    exact z_ireturn 12 rfl rfl (by first | rfl | exact zbo_nar) rfl rfl (by refine ⟨by rw [shP, if_pos h14], by rw [shP, if_pos h14]⟩)
set_option maxHeartbeats 4000000 in
set_option maxRecDepth 100000 in
theorem c_Gi_shares_10 {G : zG} {n u : Nat} {ν : Nat → va_E} {a g w : Nat} {st : zAc} (ha : a ≠ 87) (hg : g ≤ 5) (hw : w ≤ 9) (hs : iA st) {x : Int32} : zMet G 1 M_Gi_shares [.ref a, .int x] n u (pth ν a 10 g w st) n u (zE (some (.int (shP g w x st).1)) (pth ν a 10 g w (shP g w x st).2)) := by
  refine z_start (lv := [.ref a, .int x]) K_Gi_shares rfl rfl (Nat.le_refl _) (Nat.le_refl _) (Nat.le_of_ble_eq_true rfl) rfl ?_
  refine z_al0 (pc' := 1) 0 rfl rfl ?_
  refine z_bipush (v := nI 12) (by decide) (pc' := 3) 1 rfl rfl ?_
  refine z_callU0 (pc' := 6) 2 rfl rfl k_Gi_27_10 (by first | assumption | exact pth_A ha | exact pth_87) (c_Gi_begins_10 ha hg hw (hs)) (by decide) (Nat.le_refl _) (Nat.le_refl _) rfl rfl (Nat.le_of_ble_eq_true rfl) ?_
  refine z_al0 (pc' := 7) 3 rfl rfl ?_
  refine z_getf (pc' := 10) 4 rfl rfl f_Gi_7_10 (by first | assumption | exact pth_A ha | exact pth_87) (by rfl) ?_
  refine z_al0 (pc' := 11) 5 rfl rfl ?_
  refine z_getf (pc' := 14) 6 rfl rfl f_Gi_13_10 (by first | assumption | exact pth_A ha | exact pth_87) (by rfl) ?_
  first | refine z_icmp_neN (pc' := 17) 7 rfl rfl (tgt := 24) rfl (by omega) (by omega) (fun h14 => ?_) (fun h14 => ?_) | refine z_icmp_ne (pc' := 17) 7 rfl rfl (tgt := 24) rfl (fun h14 => ?_) (fun h14 => ?_)
  · refine z_il1 (pc' := 25) 13 rfl rfl ?_
    refine z_al0 (pc' := 26) 14 rfl rfl ?_
    refine z_getf (pc' := 29) 15 rfl rfl f_Gi_7_10 (by first | assumption | exact pth_A ha | exact pth_87) (by rfl) ?_
    refine z_al0 (pc' := 30) 16 rfl rfl ?_
    refine z_getf (pc' := 33) 17 rfl rfl f_Gi_13_10 (by first | assumption | exact pth_A ha | exact pth_87) (by rfl) ?_
    refine z_isub (pc' := 34) 18 rfl rfl ?_
    refine z_irem (by exact fun z => h14 ((sub_z (by omega) (by omega)).mp z)) (pc' := 35) 19 rfl rfl ?_
    exact z_ireturn 20 rfl rfl (by first | rfl | exact zbo_nar) rfl rfl (by refine ⟨by rw [shP, if_neg h14], by rw [shP, if_neg h14]⟩)
  · refine z_al0 (pc' := 18) 8 rfl rfl ?_
    refine z_iconst (v := nI 1) (by decide) (pc' := 19) 9 rfl rfl ?_
    refine z_putf (pc' := 22) 10 rfl rfl f_Gi_20_10 (by first | assumption | exact pth_A ha | exact pth_87) rfl rfl (by rfl) (by rfl) ?_
    dsimp only [List.set]
    rw [pth_sP ha]
    refine z_iconst (v := nI 0) (by decide) (pc' := 23) 11 rfl rfl ?_
    exact z_ireturn 12 rfl rfl (by first | rfl | exact zbo_nar) rfl rfl (by refine ⟨by rw [shP, if_pos h14], by rw [shP, if_pos h14]⟩)
set_option maxHeartbeats 4000000 in
set_option maxRecDepth 100000 in
theorem c_Gi_shares_6 {G : zG} {n u : Nat} {ν : Nat → va_E} {a g w : Nat} {st : zAc} (ha : a ≠ 87) (hg : g ≤ 5) (hw : w ≤ 9) (hs : iA st) {x : Int32} : zMet G 1 M_Gi_shares [.ref a, .int x] n u (pth ν a 6 g w st) n u (zE (some (.int (shP g w x st).1)) (pth ν a 6 g w (shP g w x st).2)) := by
  refine z_start (lv := [.ref a, .int x]) K_Gi_shares rfl rfl (Nat.le_refl _) (Nat.le_refl _) (Nat.le_of_ble_eq_true rfl) rfl ?_
  refine z_al0 (pc' := 1) 0 rfl rfl ?_
  refine z_bipush (v := nI 12) (by decide) (pc' := 3) 1 rfl rfl ?_
  refine z_callU0 (pc' := 6) 2 rfl rfl k_Gi_27_6 (by first | assumption | exact pth_A ha | exact pth_87) (c_Gi_begins_6 ha hg hw (hs)) (by decide) (Nat.le_refl _) (Nat.le_refl _) rfl rfl (Nat.le_of_ble_eq_true rfl) ?_
  refine z_al0 (pc' := 7) 3 rfl rfl ?_
  refine z_getf (pc' := 10) 4 rfl rfl f_Gi_7_6 (by first | assumption | exact pth_A ha | exact pth_87) (by rfl) ?_
  refine z_al0 (pc' := 11) 5 rfl rfl ?_
  refine z_getf (pc' := 14) 6 rfl rfl f_Gi_13_6 (by first | assumption | exact pth_A ha | exact pth_87) (by rfl) ?_
  first | refine z_icmp_neN (pc' := 17) 7 rfl rfl (tgt := 24) rfl (by omega) (by omega) (fun h14 => ?_) (fun h14 => ?_) | refine z_icmp_ne (pc' := 17) 7 rfl rfl (tgt := 24) rfl (fun h14 => ?_) (fun h14 => ?_)
  · refine z_il1 (pc' := 25) 13 rfl rfl ?_
    refine z_al0 (pc' := 26) 14 rfl rfl ?_
    refine z_getf (pc' := 29) 15 rfl rfl f_Gi_7_6 (by first | assumption | exact pth_A ha | exact pth_87) (by rfl) ?_
    refine z_al0 (pc' := 30) 16 rfl rfl ?_
    refine z_getf (pc' := 33) 17 rfl rfl f_Gi_13_6 (by first | assumption | exact pth_A ha | exact pth_87) (by rfl) ?_
    refine z_isub (pc' := 34) 18 rfl rfl ?_
    refine z_irem (by exact fun z => h14 ((sub_z (by omega) (by omega)).mp z)) (pc' := 35) 19 rfl rfl ?_
    exact z_ireturn 20 rfl rfl (by first | rfl | exact zbo_nar) rfl rfl (by refine ⟨by rw [shP, if_neg h14], by rw [shP, if_neg h14]⟩)
  · refine z_al0 (pc' := 18) 8 rfl rfl ?_
    refine z_iconst (v := nI 1) (by decide) (pc' := 19) 9 rfl rfl ?_
    refine z_putf (pc' := 22) 10 rfl rfl f_Gi_20_6 (by first | assumption | exact pth_A ha | exact pth_87) rfl rfl (by rfl) (by rfl) ?_
    dsimp only [List.set]
    rw [pth_sP ha]
    refine z_iconst (v := nI 0) (by decide) (pc' := 23) 11 rfl rfl ?_
    exact z_ireturn 12 rfl rfl (by first | rfl | exact zbo_nar) rfl rfl (by refine ⟨by rw [shP, if_pos h14], by rw [shP, if_pos h14]⟩)
set_option maxHeartbeats 4000000 in
set_option maxRecDepth 100000 in
theorem c_Gi_shares_2 {G : zG} {n u : Nat} {ν : Nat → va_E} {a g w : Nat} {st : zAc} (ha : a ≠ 87) (hg : g ≤ 5) (hw : w ≤ 9) (hs : iA st) {x : Int32} : zMet G 1 M_Gi_shares [.ref a, .int x] n u (pth ν a 2 g w st) n u (zE (some (.int (shP g w x st).1)) (pth ν a 2 g w (shP g w x st).2)) := by
  refine z_start (lv := [.ref a, .int x]) K_Gi_shares rfl rfl (Nat.le_refl _) (Nat.le_refl _) (Nat.le_of_ble_eq_true rfl) rfl ?_
  refine z_al0 (pc' := 1) 0 rfl rfl ?_
  refine z_bipush (v := nI 12) (by decide) (pc' := 3) 1 rfl rfl ?_
  refine z_callU0 (pc' := 6) 2 rfl rfl k_Gi_27_2 (by first | assumption | exact pth_A ha | exact pth_87) (c_Gi_begins_2 ha hg hw (hs)) (by decide) (Nat.le_refl _) (Nat.le_refl _) rfl rfl (Nat.le_of_ble_eq_true rfl) ?_
  refine z_al0 (pc' := 7) 3 rfl rfl ?_
  refine z_getf (pc' := 10) 4 rfl rfl f_Gi_7_2 (by first | assumption | exact pth_A ha | exact pth_87) (by rfl) ?_
  refine z_al0 (pc' := 11) 5 rfl rfl ?_
  refine z_getf (pc' := 14) 6 rfl rfl f_Gi_13_2 (by first | assumption | exact pth_A ha | exact pth_87) (by rfl) ?_
  first | refine z_icmp_neN (pc' := 17) 7 rfl rfl (tgt := 24) rfl (by omega) (by omega) (fun h14 => ?_) (fun h14 => ?_) | refine z_icmp_ne (pc' := 17) 7 rfl rfl (tgt := 24) rfl (fun h14 => ?_) (fun h14 => ?_)
  · refine z_il1 (pc' := 25) 13 rfl rfl ?_
    refine z_al0 (pc' := 26) 14 rfl rfl ?_
    refine z_getf (pc' := 29) 15 rfl rfl f_Gi_7_2 (by first | assumption | exact pth_A ha | exact pth_87) (by rfl) ?_
    refine z_al0 (pc' := 30) 16 rfl rfl ?_
    refine z_getf (pc' := 33) 17 rfl rfl f_Gi_13_2 (by first | assumption | exact pth_A ha | exact pth_87) (by rfl) ?_
    refine z_isub (pc' := 34) 18 rfl rfl ?_
    refine z_irem (by exact fun z => h14 ((sub_z (by omega) (by omega)).mp z)) (pc' := 35) 19 rfl rfl ?_
    exact z_ireturn 20 rfl rfl (by first | rfl | exact zbo_nar) rfl rfl (by refine ⟨by rw [shP, if_neg h14], by rw [shP, if_neg h14]⟩)
  · refine z_al0 (pc' := 18) 8 rfl rfl ?_
    refine z_iconst (v := nI 1) (by decide) (pc' := 19) 9 rfl rfl ?_
    refine z_putf (pc' := 22) 10 rfl rfl f_Gi_20_2 (by first | assumption | exact pth_A ha | exact pth_87) rfl rfl (by rfl) (by rfl) ?_
    dsimp only [List.set]
    rw [pth_sP ha]
    refine z_iconst (v := nI 0) (by decide) (pc' := 23) 11 rfl rfl ?_
    exact z_ireturn 12 rfl rfl (by first | rfl | exact zbo_nar) rfl rfl (by refine ⟨by rw [shP, if_pos h14], by rw [shP, if_pos h14]⟩)
set_option maxHeartbeats 4000000 in
set_option maxRecDepth 100000 in
theorem c_La_shares_6 {G : zG} {n u : Nat} {ν : Nat → va_E} {a g w : Nat} {st : zAc} (ha : a ≠ 87) (hg : g ≤ 5) (hw : w ≤ 9) (hs : iA st) {x : Int32} : zMet G 2 M_La_shares [.ref a, .int x] n u (pth ν a 6 g w st) n u (zE (some (.int (shL g w x st).1)) (pth ν a 6 g w (shL g w x st).2)) := by
  refine z_start (lv := [.ref a, .int x]) K_La_shares rfl rfl (Nat.le_refl _) (Nat.le_refl _) (Nat.le_of_ble_eq_true rfl) rfl ?_
  refine z_al0 (pc' := 1) 0 rfl rfl ?_
  refine z_bipush (v := nI 40) (by decide) (pc' := 3) 1 rfl rfl ?_
  refine z_callU0 (pc' := 6) 2 rfl rfl k_La_7_6 (by first | assumption | exact pth_A ha | exact pth_87) (c_Gi_begins_6 ha hg hw (hs)) (by decide) (Nat.le_refl _) (Nat.le_refl _) rfl rfl (Nat.le_of_ble_eq_true rfl) ?_
  refine z_al0 (pc' := 7) 3 rfl rfl ?_
  refine z_il1 (pc' := 8) 4 rfl rfl ?_
  refine z_callP1 (pc' := 11) 5 rfl rfl k_La_13 (by first | assumption | exact pth_A ha | exact pth_87) rfl (c_Gi_shares_6 ha hg hw (iA_b hs)) (by decide) (Nat.le_refl _) (Nat.le_refl _) rfl rfl (Nat.le_of_ble_eq_true rfl) ?_
  refine z_iconst (v := nI 2) (by decide) (pc' := 12) 6 rfl rfl ?_
  refine z_imul (pc' := 13) 7 rfl rfl ?_
  exact z_ireturn 8 rfl rfl (by first | rfl | exact zbo_nar) rfl rfl (by exact ⟨rfl, rfl⟩)
set_option maxHeartbeats 4000000 in
set_option maxRecDepth 100000 in
theorem c_La_shares_2 {G : zG} {n u : Nat} {ν : Nat → va_E} {a g w : Nat} {st : zAc} (ha : a ≠ 87) (hg : g ≤ 5) (hw : w ≤ 9) (hs : iA st) {x : Int32} : zMet G 2 M_La_shares [.ref a, .int x] n u (pth ν a 2 g w st) n u (zE (some (.int (shL g w x st).1)) (pth ν a 2 g w (shL g w x st).2)) := by
  refine z_start (lv := [.ref a, .int x]) K_La_shares rfl rfl (Nat.le_refl _) (Nat.le_refl _) (Nat.le_of_ble_eq_true rfl) rfl ?_
  refine z_al0 (pc' := 1) 0 rfl rfl ?_
  refine z_bipush (v := nI 40) (by decide) (pc' := 3) 1 rfl rfl ?_
  refine z_callU0 (pc' := 6) 2 rfl rfl k_La_7_2 (by first | assumption | exact pth_A ha | exact pth_87) (c_Gi_begins_2 ha hg hw (hs)) (by decide) (Nat.le_refl _) (Nat.le_refl _) rfl rfl (Nat.le_of_ble_eq_true rfl) ?_
  refine z_al0 (pc' := 7) 3 rfl rfl ?_
  refine z_il1 (pc' := 8) 4 rfl rfl ?_
  refine z_callP1 (pc' := 11) 5 rfl rfl k_La_13 (by first | assumption | exact pth_A ha | exact pth_87) rfl (c_Gi_shares_2 ha hg hw (iA_b hs)) (by decide) (Nat.le_refl _) (Nat.le_refl _) rfl rfl (Nat.le_of_ble_eq_true rfl) ?_
  refine z_iconst (v := nI 2) (by decide) (pc' := 12) 6 rfl rfl ?_
  refine z_imul (pc' := 13) 7 rfl rfl ?_
  exact z_ireturn 8 rfl rfl (by first | rfl | exact zbo_nar) rfl rfl (by exact ⟨rfl, rfl⟩)
set_option maxHeartbeats 4000000 in
set_option maxRecDepth 100000 in
theorem c_Ca_shares_2 {G : zG} {n u : Nat} {ν : Nat → va_E} {a g w : Nat} {st : zAc} (ha : a ≠ 87) (hg : g ≤ 5) (hw : w ≤ 9) (hs : iA st) {x : Int32} : zMet G 3 M_Ca_shares [.ref a, .int x] n u (pth ν a 2 g w st) n u (zE (some (.int (shK 5 g w x st).1)) (pth ν a 2 g w (shK 5 g w x st).2)) := by
  refine z_start (lv := [.ref a, .int x, .retAddr 0]) K_Ca_shares rfl rfl (Nat.le_refl _) (Nat.le_refl _) (Nat.le_of_ble_eq_true rfl) rfl ?_
  refine z_al0 (pc' := 1) 0 rfl rfl ?_
  refine z_bipush (v := nI 61) (by decide) (pc' := 3) 1 rfl rfl ?_
  refine z_callU0 (pc' := 6) 2 rfl rfl k_Ca_7_2 (by first | assumption | exact pth_A ha | exact pth_87) (c_Gi_begins_2 ha hg hw (hs)) (by decide) (Nat.le_refl _) (Nat.le_refl _) rfl rfl (Nat.le_of_ble_eq_true rfl) ?_
  refine z_al0 (pc' := 7) 3 rfl rfl ?_
  refine z_il1 (pc' := 8) 4 rfl rfl ?_
  refine z_callP1 (pc' := 11) 5 rfl rfl k_Ca_17 (by first | assumption | exact pth_A ha | exact pth_87) rfl (c_La_shares_2 ha hg hw (iA_b hs)) (by decide) (Nat.le_refl _) (Nat.le_refl _) rfl rfl (Nat.le_of_ble_eq_true rfl) ?_
  refine z_is2 rfl rfl (pc' := 12) 6 rfl rfl ?_
  refine z_il2 (pc' := 13) 7 rfl rfl ?_
  refine z_al0 (pc' := 14) 8 rfl rfl ?_
  refine z_al0 (pc' := 15) 9 rfl rfl ?_
  refine z_getr (pc' := 18) 10 rfl rfl f_Ca_20_2 (by first | assumption | exact pth_A ha | exact pth_87) (by rfl) ?_
  refine z_callU1 (pc' := 21) 11 rfl rfl k_Ca_24_2 (by first | assumption | exact pth_A ha | exact pth_87) (c_Gi_sails_2 ha hg hw (iA_sp (iA_b (iA_b hs)))) (by decide) (Nat.le_refl _) (Nat.le_refl _) rfl rfl (Nat.le_of_ble_eq_true rfl) ?_
  refine z_ixor (pc' := 22) 12 rfl rfl ?_
  exact z_ireturn 13 rfl rfl (by first | rfl | exact zbo_nar) rfl rfl (by exact ⟨rfl, rfl⟩)
set_option maxHeartbeats 4000000 in
set_option maxRecDepth 100000 in
theorem c_Gi_weds_5 {G : zG} {n u : Nat} {ν : Nat → va_E} {a g w : Nat} {st : zAc} (ha : a ≠ 87) (hg : g ≤ 5) (hw : w ≤ 9) (hs : iA st) {x : Int32} : zMet G 5 M_Gi_weds [.ref a, .int x] n u (pth ν a 5 g w st) n u (zE (some (.int (weP 0 g w x st).1)) (pth ν a 5 g w (weP 0 g w x st).2)) := by
  refine z_start (lv := [.ref a, .int x, .retAddr 0]) K_Gi_weds rfl rfl (Nat.le_refl _) (Nat.le_refl _) (Nat.le_of_ble_eq_true rfl) rfl ?_
  refine z_al0 (pc' := 1) 0 rfl rfl ?_
  refine z_bipush (v := nI 13) (by decide) (pc' := 3) 1 rfl rfl ?_
  refine z_callU0 (pc' := 6) 2 rfl rfl k_Gi_27_5 (by first | assumption | exact pth_A ha | exact pth_87) (c_Gi_begins_5 ha hg hw (hs)) (by decide) (Nat.le_refl _) (Nat.le_refl _) rfl rfl (Nat.le_of_ble_eq_true rfl) ?_
  refine z_al0 (pc' := 7) 3 rfl rfl ?_
  refine z_il1 (pc' := 8) 4 rfl rfl ?_
  refine z_callU1 (pc' := 11) 5 rfl rfl k_Gi_35_5 (by first | assumption | exact pth_A ha | exact pth_87) (c_Gi_calls_5 ha hg hw (iA_b hs)) (by decide) (Nat.le_refl _) (Nat.le_refl _) rfl rfl (Nat.le_of_ble_eq_true rfl) ?_
  refine z_is2 rfl rfl (pc' := 12) 6 rfl rfl ?_
  refine z_il2 (pc' := 13) 7 rfl rfl ?_
  refine z_al0 (pc' := 14) 8 rfl rfl ?_
  refine z_il1 (pc' := 15) 9 rfl rfl ?_
  refine z_callU1 (pc' := 18) 10 rfl rfl k_Gi_38_5 (by first | assumption | exact pth_A ha | exact pth_87) (c_Gi_shares_5 ha hg hw (iA_ca (k := 0) (iA_b hs))) (by decide) (Nat.le_refl _) (Nat.le_refl _) rfl rfl (Nat.le_of_ble_eq_true rfl) ?_
  refine z_isub (pc' := 19) 11 rfl rfl ?_
  exact z_ireturn 12 rfl rfl (by first | rfl | exact zbo_nar) rfl rfl (by exact ⟨rfl, rfl⟩)
set_option maxHeartbeats 4000000 in
set_option maxRecDepth 100000 in
theorem c_Gi_weds_8 {G : zG} {n u : Nat} {ν : Nat → va_E} {a g w : Nat} {st : zAc} (ha : a ≠ 87) (hg : g ≤ 5) (hw : w ≤ 9) (hs : iA st) {x : Int32} : zMet G 5 M_Gi_weds [.ref a, .int x] n u (pth ν a 8 g w st) n u (zE (some (.int (weP 1 g w x st).1)) (pth ν a 8 g w (weP 1 g w x st).2)) := by
  refine z_start (lv := [.ref a, .int x, .retAddr 0]) K_Gi_weds rfl rfl (Nat.le_refl _) (Nat.le_refl _) (Nat.le_of_ble_eq_true rfl) rfl ?_
  refine z_al0 (pc' := 1) 0 rfl rfl ?_
  refine z_bipush (v := nI 13) (by decide) (pc' := 3) 1 rfl rfl ?_
  refine z_callU0 (pc' := 6) 2 rfl rfl k_Gi_27_8 (by first | assumption | exact pth_A ha | exact pth_87) (c_Gi_begins_8 ha hg hw (hs)) (by decide) (Nat.le_refl _) (Nat.le_refl _) rfl rfl (Nat.le_of_ble_eq_true rfl) ?_
  refine z_al0 (pc' := 7) 3 rfl rfl ?_
  refine z_il1 (pc' := 8) 4 rfl rfl ?_
  refine z_callU1 (pc' := 11) 5 rfl rfl k_Gi_35_8 (by first | assumption | exact pth_A ha | exact pth_87) (c_Gi_calls_8 ha hg hw (iA_b hs)) (by decide) (Nat.le_refl _) (Nat.le_refl _) rfl rfl (Nat.le_of_ble_eq_true rfl) ?_
  refine z_is2 rfl rfl (pc' := 12) 6 rfl rfl ?_
  refine z_il2 (pc' := 13) 7 rfl rfl ?_
  refine z_al0 (pc' := 14) 8 rfl rfl ?_
  refine z_il1 (pc' := 15) 9 rfl rfl ?_
  refine z_callU1 (pc' := 18) 10 rfl rfl k_Gi_38_8 (by first | assumption | exact pth_A ha | exact pth_87) (c_Gi_shares_8 ha hg hw (iA_ca (k := 1) (iA_b hs))) (by decide) (Nat.le_refl _) (Nat.le_refl _) rfl rfl (Nat.le_of_ble_eq_true rfl) ?_
  refine z_isub (pc' := 19) 11 rfl rfl ?_
  exact z_ireturn 12 rfl rfl (by first | rfl | exact zbo_nar) rfl rfl (by exact ⟨rfl, rfl⟩)
set_option maxHeartbeats 4000000 in
set_option maxRecDepth 100000 in
theorem c_Gi_weds_1 {G : zG} {n u : Nat} {ν : Nat → va_E} {a g w : Nat} {st : zAc} (ha : a ≠ 87) (hg : g ≤ 5) (hw : w ≤ 9) (hs : iA st) {x : Int32} : zMet G 5 M_Gi_weds [.ref a, .int x] n u (pth ν a 1 g w st) n u (zE (some (.int (weP 2 g w x st).1)) (pth ν a 1 g w (weP 2 g w x st).2)) := by
  refine z_start (lv := [.ref a, .int x, .retAddr 0]) K_Gi_weds rfl rfl (Nat.le_refl _) (Nat.le_refl _) (Nat.le_of_ble_eq_true rfl) rfl ?_
  refine z_al0 (pc' := 1) 0 rfl rfl ?_
  refine z_bipush (v := nI 13) (by decide) (pc' := 3) 1 rfl rfl ?_
  refine z_callU0 (pc' := 6) 2 rfl rfl k_Gi_27_1 (by first | assumption | exact pth_A ha | exact pth_87) (c_Gi_begins_1 ha hg hw (hs)) (by decide) (Nat.le_refl _) (Nat.le_refl _) rfl rfl (Nat.le_of_ble_eq_true rfl) ?_
  refine z_al0 (pc' := 7) 3 rfl rfl ?_
  refine z_il1 (pc' := 8) 4 rfl rfl ?_
  refine z_callU1 (pc' := 11) 5 rfl rfl k_Gi_35_1 (by first | assumption | exact pth_A ha | exact pth_87) (c_Br_calls_1 ha hg hw (iA_b hs)) (by decide) (Nat.le_refl _) (Nat.le_refl _) rfl rfl (Nat.le_of_ble_eq_true rfl) ?_
  refine z_is2 rfl rfl (pc' := 12) 6 rfl rfl ?_
  refine z_il2 (pc' := 13) 7 rfl rfl ?_
  refine z_al0 (pc' := 14) 8 rfl rfl ?_
  refine z_il1 (pc' := 15) 9 rfl rfl ?_
  refine z_callU1 (pc' := 18) 10 rfl rfl k_Gi_38_1 (by first | assumption | exact pth_A ha | exact pth_87) (c_Gi_shares_1 ha hg hw (iA_ca (k := 2) (iA_b hs))) (by decide) (Nat.le_refl _) (Nat.le_refl _) rfl rfl (Nat.le_of_ble_eq_true rfl) ?_
  refine z_isub (pc' := 19) 11 rfl rfl ?_
  exact z_ireturn 12 rfl rfl (by first | rfl | exact zbo_nar) rfl rfl (by exact ⟨rfl, rfl⟩)
set_option maxHeartbeats 4000000 in
set_option maxRecDepth 100000 in
theorem c_Gi_weds_10 {G : zG} {n u : Nat} {ν : Nat → va_E} {a g w : Nat} {st : zAc} (ha : a ≠ 87) (hg : g ≤ 5) (hw : w ≤ 9) (hs : iA st) {x : Int32} : zMet G 5 M_Gi_weds [.ref a, .int x] n u (pth ν a 10 g w st) n u (zE (some (.int (weP 3 g w x st).1)) (pth ν a 10 g w (weP 3 g w x st).2)) := by
  refine z_start (lv := [.ref a, .int x, .retAddr 0]) K_Gi_weds rfl rfl (Nat.le_refl _) (Nat.le_refl _) (Nat.le_of_ble_eq_true rfl) rfl ?_
  refine z_al0 (pc' := 1) 0 rfl rfl ?_
  refine z_bipush (v := nI 13) (by decide) (pc' := 3) 1 rfl rfl ?_
  refine z_callU0 (pc' := 6) 2 rfl rfl k_Gi_27_10 (by first | assumption | exact pth_A ha | exact pth_87) (c_Gi_begins_10 ha hg hw (hs)) (by decide) (Nat.le_refl _) (Nat.le_refl _) rfl rfl (Nat.le_of_ble_eq_true rfl) ?_
  refine z_al0 (pc' := 7) 3 rfl rfl ?_
  refine z_il1 (pc' := 8) 4 rfl rfl ?_
  refine z_callU1 (pc' := 11) 5 rfl rfl k_Gi_35_10 (by first | assumption | exact pth_A ha | exact pth_87) (c_Br_calls_10 ha hg hw (iA_b hs)) (by decide) (Nat.le_refl _) (Nat.le_refl _) rfl rfl (Nat.le_of_ble_eq_true rfl) ?_
  refine z_is2 rfl rfl (pc' := 12) 6 rfl rfl ?_
  refine z_il2 (pc' := 13) 7 rfl rfl ?_
  refine z_al0 (pc' := 14) 8 rfl rfl ?_
  refine z_il1 (pc' := 15) 9 rfl rfl ?_
  refine z_callU1 (pc' := 18) 10 rfl rfl k_Gi_38_10 (by first | assumption | exact pth_A ha | exact pth_87) (c_Gi_shares_10 ha hg hw (iA_ca (k := 3) (iA_b hs))) (by decide) (Nat.le_refl _) (Nat.le_refl _) rfl rfl (Nat.le_of_ble_eq_true rfl) ?_
  refine z_isub (pc' := 19) 11 rfl rfl ?_
  exact z_ireturn 12 rfl rfl (by first | rfl | exact zbo_nar) rfl rfl (by exact ⟨rfl, rfl⟩)
set_option maxHeartbeats 4000000 in
set_option maxRecDepth 100000 in
theorem c_Gi_weds_6 {G : zG} {n u : Nat} {ν : Nat → va_E} {a g w : Nat} {st : zAc} (ha : a ≠ 87) (hg : g ≤ 5) (hw : w ≤ 9) (hs : iA st) {x : Int32} : zMet G 5 M_Gi_weds [.ref a, .int x] n u (pth ν a 6 g w st) n u (zE (some (.int (weP 4 g w x st).1)) (pth ν a 6 g w (weP 4 g w x st).2)) := by
  refine z_start (lv := [.ref a, .int x, .retAddr 0]) K_Gi_weds rfl rfl (Nat.le_refl _) (Nat.le_refl _) (Nat.le_of_ble_eq_true rfl) rfl ?_
  refine z_al0 (pc' := 1) 0 rfl rfl ?_
  refine z_bipush (v := nI 13) (by decide) (pc' := 3) 1 rfl rfl ?_
  refine z_callU0 (pc' := 6) 2 rfl rfl k_Gi_27_6 (by first | assumption | exact pth_A ha | exact pth_87) (c_Gi_begins_6 ha hg hw (hs)) (by decide) (Nat.le_refl _) (Nat.le_refl _) rfl rfl (Nat.le_of_ble_eq_true rfl) ?_
  refine z_al0 (pc' := 7) 3 rfl rfl ?_
  refine z_il1 (pc' := 8) 4 rfl rfl ?_
  refine z_callU1 (pc' := 11) 5 rfl rfl k_Gi_35_6 (by first | assumption | exact pth_A ha | exact pth_87) (c_Gi_calls_6 ha hg hw (iA_b hs)) (by decide) (Nat.le_refl _) (Nat.le_refl _) rfl rfl (Nat.le_of_ble_eq_true rfl) ?_
  refine z_is2 rfl rfl (pc' := 12) 6 rfl rfl ?_
  refine z_il2 (pc' := 13) 7 rfl rfl ?_
  refine z_al0 (pc' := 14) 8 rfl rfl ?_
  refine z_il1 (pc' := 15) 9 rfl rfl ?_
  refine z_callU1 (pc' := 18) 10 rfl rfl k_Gi_38_6 (by first | assumption | exact pth_A ha | exact pth_87) (c_La_shares_6 ha hg hw (iA_ca (k := 4) (iA_b hs))) (by decide) (Nat.le_refl _) (Nat.le_refl _) rfl rfl (Nat.le_of_ble_eq_true rfl) ?_
  refine z_isub (pc' := 19) 11 rfl rfl ?_
  exact z_ireturn 12 rfl rfl (by first | rfl | exact zbo_nar) rfl rfl (by exact ⟨rfl, rfl⟩)
set_option maxHeartbeats 4000000 in
set_option maxRecDepth 100000 in
theorem c_Gi_weds_2 {G : zG} {n u : Nat} {ν : Nat → va_E} {a g w : Nat} {st : zAc} (ha : a ≠ 87) (hg : g ≤ 5) (hw : w ≤ 9) (hs : iA st) {x : Int32} : zMet G 5 M_Gi_weds [.ref a, .int x] n u (pth ν a 2 g w st) n u (zE (some (.int (weP 5 g w x st).1)) (pth ν a 2 g w (weP 5 g w x st).2)) := by
  refine z_start (lv := [.ref a, .int x, .retAddr 0]) K_Gi_weds rfl rfl (Nat.le_refl _) (Nat.le_refl _) (Nat.le_of_ble_eq_true rfl) rfl ?_
  refine z_al0 (pc' := 1) 0 rfl rfl ?_
  refine z_bipush (v := nI 13) (by decide) (pc' := 3) 1 rfl rfl ?_
  refine z_callU0 (pc' := 6) 2 rfl rfl k_Gi_27_2 (by first | assumption | exact pth_A ha | exact pth_87) (c_Gi_begins_2 ha hg hw (hs)) (by decide) (Nat.le_refl _) (Nat.le_refl _) rfl rfl (Nat.le_of_ble_eq_true rfl) ?_
  refine z_al0 (pc' := 7) 3 rfl rfl ?_
  refine z_il1 (pc' := 8) 4 rfl rfl ?_
  refine z_callU1 (pc' := 11) 5 rfl rfl k_Gi_35_2 (by first | assumption | exact pth_A ha | exact pth_87) (c_Ca_calls_2 ha hg hw (iA_b hs)) (by decide) (Nat.le_refl _) (Nat.le_refl _) rfl rfl (Nat.le_of_ble_eq_true rfl) ?_
  refine z_is2 rfl rfl (pc' := 12) 6 rfl rfl ?_
  refine z_il2 (pc' := 13) 7 rfl rfl ?_
  refine z_al0 (pc' := 14) 8 rfl rfl ?_
  refine z_il1 (pc' := 15) 9 rfl rfl ?_
  refine z_callU1 (pc' := 18) 10 rfl rfl k_Gi_38_2 (by first | assumption | exact pth_A ha | exact pth_87) (c_Ca_shares_2 ha hg hw (iA_ca (k := 5) (iA_b hs))) (by decide) (Nat.le_refl _) (Nat.le_refl _) rfl rfl (Nat.le_of_ble_eq_true rfl) ?_
  refine z_isub (pc' := 19) 11 rfl rfl ?_
  exact z_ireturn 12 rfl rfl (by first | rfl | exact zbo_nar) rfl rfl (by exact ⟨rfl, rfl⟩)
set_option maxHeartbeats 4000000 in
set_option maxRecDepth 100000 in
theorem c_Tw_weds_10 {G : zG} {n u : Nat} {ν : Nat → va_E} {a g w : Nat} {st : zAc} (ha : a ≠ 87) (hg : g ≤ 5) (hw : w ≤ 9) (hs : iA st) {x : Int32} : zMet G 6 M_Tw_weds [.ref a, .int x] n u (pth ν a 10 g w st) n u (zE (some (.int (weK 3 g w x st).1)) (pth ν a 10 g w (weK 3 g w x st).2)) := by
  refine z_start (lv := [.ref a, .int x, .retAddr 0]) K_Tw_weds rfl rfl (Nat.le_refl _) (Nat.le_refl _) (Nat.le_of_ble_eq_true rfl) rfl ?_
  refine z_al0 (pc' := 1) 0 rfl rfl ?_
  refine z_bipush (v := nI 51) (by decide) (pc' := 3) 1 rfl rfl ?_
  refine z_callU0 (pc' := 6) 2 rfl rfl k_Tw_7_10 (by first | assumption | exact pth_A ha | exact pth_87) (c_Gi_begins_10 ha hg hw (hs)) (by decide) (Nat.le_refl _) (Nat.le_refl _) rfl rfl (Nat.le_of_ble_eq_true rfl) ?_
  refine z_al0 (pc' := 7) 3 rfl rfl ?_
  refine z_il1 (pc' := 8) 4 rfl rfl ?_
  refine z_callQ1 (pc' := 11) 5 rfl rfl k_Tw_17 (by first | assumption | exact pth_A ha | exact pth_87) rfl (c_Gi_weds_10 ha hg hw (iA_b hs)) (by decide) (Nat.le_refl _) (Nat.le_refl _) rfl rfl (Nat.le_of_ble_eq_true rfl) ?_
  refine z_is2 rfl rfl (pc' := 12) 6 rfl rfl ?_
  refine z_il2 (pc' := 13) 7 rfl rfl ?_
  refine z_al0 (pc' := 14) 8 rfl rfl ?_
  refine z_al0 (pc' := 15) 9 rfl rfl ?_
  refine z_getr (pc' := 18) 10 rfl rfl f_Tw_20_10 (by first | assumption | exact pth_A ha | exact pth_87) (by rfl) ?_
  refine z_callU1 (pc' := 21) 11 rfl rfl k_Tw_24_10 (by first | assumption | exact pth_A ha | exact pth_87) (c_Br_calls_10 ha hg hw (iA_wp (k := 3) (iA_b hs))) (by decide) (Nat.le_refl _) (Nat.le_refl _) rfl rfl (Nat.le_of_ble_eq_true rfl) ?_
  refine z_iadd (pc' := 22) 12 rfl rfl ?_
  exact z_ireturn 13 rfl rfl (by first | rfl | exact zbo_nar) rfl rfl (by exact ⟨rfl, rfl⟩)
