/-! ===== what the rules read tell ===== -/
def tlL (k : Nat) (f : Nat → Nat) : zRu → Nat
  | [] => 0
  | (a, b, _, im) :: t => if udB k a = true ∧ tpB (evB f im []) = true then b else tlL k f t
def dL (L : zRu) : zD6 := fun k mo f dw h g => tlL k (fct mo f dw h g) L
def gRu (x : Nat × Nat × zI × zI) : Prop := x.1 ≤ 5 ∧ x.2.1 ≤ 2 ∧ ((x.2.2.1 = [] ∧ x.2.2.2 = []) ∨ GQ 0 x.2.2.1 x.2.2.2)
theorem tlL_2 {k : Nat} {f : Nat → Nat} : ∀ L : zRu, (∀ x, x ∈ L → gRu x) → tlL k f L ≤ 2
  | [], _ => by show 0 ≤ 2; decide
  | (a, b, ic, im) :: t, h => by
    show (if _ then b else tlL k f t) ≤ 2
    split
    · exact (h _ (List.mem_cons_self ..)).2.1
    · exact tlL_2 t (fun x hx => h x (List.mem_cons_of_mem _ hx))
theorem ev_ext {f f' : Nat → Nat} (h : ∀ j, j ≤ 4 → f j = f' j) : ∀ (t : zI) (d : Nat) (s : List Bool), okI t d → evB f t s = evB f' t s
  | [], _, _, _ => rfl
  | (o, l, r) :: t, d, s, hk => by
    have hv : ∀ c, opv c → vl f c = vl f' c := fun c hc => by
      unfold vl
      rcases hc with q | q
      · rw [if_neg (by omega), if_neg (by omega)]; exact h _ (by omega)
      · rw [if_pos q.1, if_pos q.1]
    rcases hk with ⟨rfl, h1, hk⟩ | ⟨ho, h1, hk⟩ | ⟨h1, h2, h3, h4, h5, hk⟩
    · cases s with
      | nil => rfl
      | cons b s => exact ev_ext h t _ _ hk
    · rcases ho with rfl | rfl
      · match s with
        | [] => rfl
        | [b] => rfl
        | b :: a :: s => exact ev_ext h t _ _ hk
      · match s with
        | [] => rfl
        | [b] => rfl
        | b :: a :: s => exact ev_ext h t _ _ hk
    · have e : ∀ g : Nat → Nat, evB g ((o, l, r) :: t) s = evB g t (cmB o (vl g l) (vl g r) :: s) := fun g => by simp only [evB, if_neg (show ¬ o = 12 by omega), if_neg (show ¬ o = 11 by omega), if_neg (show ¬ o = 10 by omega)]
      rw [e, e, hv l h3, hv r h4]
      exact ev_ext h t _ _ hk
theorem fcs_f {mo f dw h g : Nat} {q : Nat → Nat} : ∀ j, j ≤ 4 → fcs mo f dw h g q j = fct mo f dw h g j := by
  intro j hj
  rcases (show j = 0 ∨ j = 1 ∨ j = 2 ∨ j = 3 ∨ j = 4 by omega) with e | e | e | e | e <;> subst e <;> rfl
theorem gRu_c {x : Nat × Nat × zI × zI} (h : gRu x) : okI x.2.2.1 0 ∧ okI x.2.2.2 0 ∧ (x.2.2.2 = [] ∨ dpI x.2.2.2 0 = 1) ∧ ∀ f, tpB (evB f x.2.2.1 []) = tpB (evB f x.2.2.2 []) := by
  rcases h.2.2 with ⟨h1, h2⟩ | ⟨h1, h2, h3, h4⟩
  · rw [h1, h2]
    exact ⟨trivial, trivial, Or.inl rfl, fun _ => rfl⟩
  · refine ⟨?_, ?_, Or.inr ?_, fun f => ?_⟩
    · have := h2 [] trivial
      rw [List.append_nil] at this
      exact this
    · have := h3 [] trivial
      rw [List.append_nil] at this
      exact this
    · have := h4 []
      rw [List.append_nil] at this
      exact this
    · obtain ⟨b, hb⟩ := h1 f
      have := hb [] []
      rw [List.append_nil, List.append_nil] at this
      rw [this.1, this.2]
/-- both books tell what the list tells -/
theorem tlN_L {β : Nat → Nat → Nat} {its : Nat → zI} {L : zRu} {k : Nat} {f f' : Nat → Nat} (h1 : ∀ r a b ic im, L[r]? = some (a, b, ic, im) → β 1 r = a ∧ β 2 r = b ∧ tpB (evB f (its r) []) = tpB (evB f' im [])) : ∀ m r, r + m = L.length → tlN β its k f m r = tlL k f' (L.drop r)
  | 0, r, e => by rw [List.drop_of_length_le (by omega)]; rfl
  | m + 1, r, e => by
    have hr : r < L.length := by omega
    rw [List.drop_eq_getElem_cons hr]
    obtain ⟨⟨a, b, ic, im⟩, hx⟩ : ∃ x, x = L[r] := ⟨_, rfl⟩
    obtain ⟨g1, g2, g3⟩ := h1 r a b ic im (by rw [List.getElem?_eq_getElem hr, hx])
    rw [← hx]
    show (if udB k (β 1 r) = true ∧ tpB (evB f (its r) []) = true then β 2 r else tlN β its k f m (r + 1)) = (if udB k a = true ∧ tpB (evB f' im []) = true then b else tlL k f' (L.drop (r + 1)))
    rw [g1, g2, g3, tlN_L h1 m (r + 1) (by omega)]
theorem L_mem {L : zRu} {r : Nat} {x : Nat × Nat × zI × zI} (h : L[r]? = some x) : x ∈ L := List.mem_of_getElem? h
theorem dzM_L {ρ : Nat → Int32} {rc la : Nat} {L : zRu} (h : rkL rc la ρ L) (hg : ∀ x, x ∈ L → gRu x) (hla : la ≤ 500) (h8 : rc ≤ 8) : dzM ρ rc (dL L) := by
  obtain ⟨h1, h2⟩ := h
  have hex : ∀ r, ∃ q : Nat × Nat, ∀ a b ic im, L[r]? = some (a, b, ic, im) → ρ (86 + 4 * r) = nI a ∧ ρ (86 + 4 * r + 1) = nI b ∧ ρ (86 + 4 * r + 2) = nI q.1 ∧ ρ (86 + 4 * r + 3) = nI q.2 ∧ sgM ρ q.1 im q.2 ∧ q.2 ≤ la := fun r => by
    cases hr : L[r]? with
    | none => exact ⟨(0, 0), fun _ _ _ _ z => by cases z⟩
    | some x =>
      obtain ⟨a, b, ic, im⟩ := x
      obtain ⟨bg, en, g⟩ := h2 r a b ic im hr
      exact ⟨(bg, en), fun a' b' ic' im' z => by cases z; exact g⟩
  refine ⟨fun i r => if i = 0 then rc else if i = 1 then (L.getD r (0, 0, [], [])).1 else if i = 2 then (L.getD r (0, 0, [], [])).2.1 else if i = 3 then (Classical.choose (hex r)).1 else (Classical.choose (hex r)).2, fun r => (L.getD r (0, 0, [], [])).2.2.2, ⟨rfl, h8, fun r hr => ?_⟩, fun k mo f dw h g => ?_, fun k mo f dw h g => tlL_2 L hg⟩
  · have hr2 : r < L.length := by omega
    obtain ⟨⟨a, b, ic, im⟩, hx⟩ : ∃ x, L[r]? = some x := ⟨_, List.getElem?_eq_getElem hr2⟩
    have hd : L.getD r (0, 0, [], []) = (a, b, ic, im) := by rw [List.getD_eq_getElem?_getD, hx]; rfl
    obtain ⟨g1, g2, g3, g4, g5, g6⟩ := Classical.choose_spec (hex r) a b ic im hx
    obtain ⟨c1, c2, c3, -⟩ := gRu_c (hg _ (L_mem hx))
    have c0 := hg _ (L_mem hx)
    show ρ (86 + 4 * r) = nI (L.getD r (0, 0, [], [])).1 ∧ ρ (86 + 4 * r + 1) = nI (L.getD r (0, 0, [], [])).2.1 ∧ ρ (86 + 4 * r + 2) = nI (Classical.choose (hex r)).1 ∧ ρ (86 + 4 * r + 3) = nI (Classical.choose (hex r)).2 ∧ sgM ρ (Classical.choose (hex r)).1 (L.getD r (0, 0, [], [])).2.2.2 (Classical.choose (hex r)).2 ∧ (Classical.choose (hex r)).2 ≤ 500 ∧ okI (L.getD r (0, 0, [], [])).2.2.2 0 ∧ ((L.getD r (0, 0, [], [])).2.2.2 = [] ∨ dpI (L.getD r (0, 0, [], [])).2.2.2 0 = 1) ∧ (L.getD r (0, 0, [], [])).1 ≤ 5 ∧ (L.getD r (0, 0, [], [])).2.1 ≤ 2
    rw [hd]
    exact ⟨g1, g2, g3, g4, g5, by omega, c2, c3, c0.1, c0.2.1⟩
  · rw [tlN_L (L := L) (f' := fct mo f dw h g) (fun r a b ic im hx => ?_) rc 0 (by omega), List.drop_zero]
    · rfl
    · have hd : L.getD r (0, 0, [], []) = (a, b, ic, im) := by rw [List.getD_eq_getElem?_getD, hx]; rfl
      show (L.getD r (0, 0, [], [])).1 = a ∧ (L.getD r (0, 0, [], [])).2.1 = b ∧ tpB (evB _ (L.getD r (0, 0, [], [])).2.2.2 []) = tpB (evB _ im [])
      rw [hd]
      exact ⟨rfl, rfl, rfl⟩
theorem dzB_L {c z : Nat} {kd de bg c4 : Nat → Nat} {L : zRu} (h : bkL c z kd de bg c4 L) (hg : ∀ x, x ∈ L → gRu x) (hz : z ≤ 200) (h8 : c ≤ 8) : dzB (fun i j => if i = 0 then (if j = 0 then c else z) else if i = 1 then kd j else if i = 2 then de j else if i = 3 then bg j else c4 j) (fun r => (L.getD r (0, 0, [], [])).2.2.1) (dL L) := by
  obtain ⟨h1, h2, h3, h4⟩ := h
  refine ⟨⟨h8, fun r hr => ?_⟩, fun k mo f dw h g q => ?_, ?_, hz⟩
  · have hr : r < c := hr
    have hr2 : r < L.length := by omega
    obtain ⟨⟨a, b, ic, im⟩, hx⟩ : ∃ x, L[r]? = some x := ⟨_, List.getElem?_eq_getElem hr2⟩
    have hd : L.getD r (0, 0, [], []) = (a, b, ic, im) := by rw [List.getD_eq_getElem?_getD, hx]; rfl
    obtain ⟨g1, g2, g3, g4⟩ := h4 r a b ic im hx
    obtain ⟨c1, c2, c3, -⟩ := gRu_c (hg _ (L_mem hx))
    have c0 := hg _ (L_mem hx)
    show sg (fun j => c4 j) (bg r) (L.getD r (0, 0, [], [])).2.2.1 (bg (r + 1)) ∧ okI (L.getD r (0, 0, [], [])).2.2.1 0 ∧ bg (r + 1) ≤ 200 ∧ kd r ≤ 5 ∧ de r ≤ 2
    rw [hd, g1, g2]
    exact ⟨g3, c1, by omega, c0.1, c0.2.1⟩
  · show tlN _ _ k (fcs mo f dw h g q) c 0 = _
    rw [tlN_L (L := L) (f' := fct mo f dw h g) (fun r a b ic im hx => ?_) c 0 (by omega), List.drop_zero]
    · rfl
    · have hd : L.getD r (0, 0, [], []) = (a, b, ic, im) := by rw [List.getD_eq_getElem?_getD, hx]; rfl
      obtain ⟨g1, g2, g3, g4⟩ := h4 r a b ic im hx
      obtain ⟨c1, c2, c3, c4'⟩ := gRu_c (hg _ (L_mem hx))
      show kd r = a ∧ de r = b ∧ tpB (evB _ (L.getD r (0, 0, [], [])).2.2.1 []) = tpB (evB _ im [])
      rw [hd]
      exact ⟨g1, g2, by rw [ev_ext fcs_f _ _ _ c1]; exact c4' _⟩
  · show bg c ≤ z
    omega
theorem endR_g {tc : Nat → Nat} {kd j : Nat} {ic im : zI} (hk : kd ≤ 5) (hg : (ic = [] ∧ im = []) ∨ GQ 0 ic im) (x : Nat × Nat × zI × zI) (h : (endR tc kd j ic im).2.2 = some x) : gRu x := by
  unfold endR at h
  split at h
  · rename_i q
    split at h
    · cases h; exact ⟨hk, by show tc j - 6 ≤ 2; omega, hg⟩
    · cases h; exact ⟨hk, by show tc j - 6 ≤ 2; omega, hg⟩
  · cases h
theorem ruR_g {tc : Nat → Nat} {F j : Nat} {R : zR1} (hp : ruR tc F j = some R) (x : Nat × Nat × zI × zI) (h : R.2.2 = some x) : gRu x := by
  unfold ruR at hp
  split at hp
  · rename_i q
    split at hp
    · obtain ⟨r, h1, h2⟩ := Option.bind_eq_some_iff.mp hp
      cases h2
      split at h
      · rename_i w
        exact endR_g q (Or.inr ((pP_gq F 3 _ _ _ _ r (by decide) h1 w).2.2.2.1 rfl 0 (by decide))) x h
      · cases h
    · cases hp
      exact endR_g q (Or.inl ⟨rfl, rfl⟩) x h
  · cases hp
    cases h
theorem rlR_g {tc : Nat → Nat} {F : Nat} : ∀ k j L R, (∀ x, x ∈ L → gRu x) → rlR tc F k j L = some R → ∀ x, x ∈ R.2.2 → gRu x
  | 0, j, L, R, hL, h => by cases h; exact hL
  | k + 1, j, L, R, hL, h => by
    unfold rlR at h
    split at h
    · cases h; exact hL
    · obtain ⟨r, h1, h2⟩ := Option.bind_eq_some_iff.mp h
      have hL2 : ∀ x, x ∈ aR L r.2.2 → gRu x := fun x hx => by
        cases ho : r.2.2 with
        | none => rw [ho] at hx; exact hL x hx
        | some y =>
          rw [ho] at hx
          have hx : x ∈ L ++ [y] := hx
          rcases List.mem_append.mp hx with q | q
          · exact hL x q
          · rw [List.mem_singleton.mp q]; exact ruR_g h1 y ho
      split at h2
      · exact rlR_g k _ _ R hL2 h2
      · cases h2; exact hL2
/-- what is read of the tokens -/
noncomputable def ruL (tc : Nat → Nat) : Nat × Bool × zRu := @Classical.epsilon _ ⟨(0, false, [])⟩ (fun R : Nat × Bool × zRu => ∃ F, rlR tc F 8 0 [] = some R)
theorem ruL_s {tc : Nat → Nat} {N : Nat} (hT : iTk tc N) : ∃ F, rlR tc F 8 0 [] = some (ruL tc) := by
  obtain ⟨F, R, h⟩ := rlR_T hT 8 0 [] (Nat.zero_le _)
  exact Classical.epsilon_spec (p := fun R : Nat × Bool × zRu => ∃ F, rlR tc F 8 0 [] = some R) ⟨R, F, h⟩
theorem ruL_g {tc : Nat → Nat} {N : Nat} (hT : iTk tc N) : ∀ x, x ∈ (ruL tc).2.2 → gRu x := by
  obtain ⟨F, h⟩ := ruL_s hT
  exact rlR_g 8 0 [] _ (fun x hx => by cases hx) h
/-- rules(): the answer, the coast behind it -/
noncomputable def f_rules (κ : zκ) (b : Nat → Nat) (ln : Nat) (tk : Nat → Nat) : Int32 × zκ :=
  (ruA (tcF b ln tk) (tpF b ln) (ruL (tcF b ln tk)), if (ruL (tcF b ln tk)).2.1 = true ∧ tcF b ln tk (ruL (tcF b ln tk)).1 = 25 then (κ.1, κ.2.1, κ.2.2.1, κ.2.2.2.1, κ.2.2.2.2.1, κ.2.2.2.2.2.1, (ruL (tcF b ln tk)).2.2.length, dL (ruL (tcF b ln tk)).2.2) else κ)
def mRu (μ : Nat → va_E) (s : Nat → Int32) (p : Int32 × zκ) : zP := fun r μ' => r = some (.int p.1) ∧ ∃ s' : Nat → Int32, (s' 3 = s 3 ∧ s' 5 = nI 0 ∧ s' 23 = s 23 ∧ s' 32 = s 32) ∧ mst μ' s' p.2 ∧ ∀ i, (i < 88 ∨ i = 90 ∨ i = 92 ∨ 97 < i) → μ' i = μ i
theorem rlR_n {tc : Nat → Nat} {F : Nat} : ∀ k j L R, rlR tc F k j L = some R → R.2.2.length ≤ L.length + k
  | 0, j, L, R, h => by cases h; exact Nat.le_refl _
  | k + 1, j, L, R, h => by
    unfold rlR at h
    split at h
    · cases h; exact Nat.le_add_right _ _
    · obtain ⟨r, h1, h2⟩ := Option.bind_eq_some_iff.mp h
      have hl := aR_len (L := L) (o := r.2.2)
      split at h2
      · have := rlR_n k _ _ R h2; omega
      · cases h2
        show (aR L r.2.2).length ≤ _
        omega
set_option maxHeartbeats 4000000 in
set_option maxRecDepth 100000 in
theorem c_Mo_rules {G : zG} {n u : Nat} {μ : Nat → va_E} {κ : zκ} {s : Nat → Int32} (h : mst μ s κ) {b : Nat → Nat} {ln : Nat} (h92 : μ 92 = .inl (0, 200, .inl (fun i => nI (b i)))) (hb : ∀ i, b i ≤ 255) (hln : ln ≤ 200) (h5 : s 5 = nI ln) {tk : Nat → Nat} (htk : ∀ j, vc (tk j)) : zMet G 18 M_Mo_rules [.ref 88] n u μ n u (mRu μ s (f_rules κ b ln tk)) := by
  have hT : iTk (tcF b ln tk) (NF b ln) := tcF_T hln htk
  obtain ⟨F, hF⟩ := ruL_s hT
  have hlen := rlR_n 8 0 [] _ hF
  obtain ⟨f9, ef9⟩ : ∃ f9 : zP, f9 = (mRu μ s (f_rules κ b ln tk)) := ⟨_, rfl⟩
  rw [← ef9]
  obtain ⟨S, mo, pr, fa, sc, ch, rc, D⟩ := κ
  have hst := h
  obtain ⟨⟨ρ, h1, hD⟩, h2, ⟨q93, h93⟩, ⟨q91, h91⟩, ⟨q94, h94⟩, ⟨q95, h95⟩, ⟨q96, h96⟩, ⟨q97, h97⟩, hk5⟩ := h
  have hkk := hk5
  obtain ⟨hi, hx, hmo, hrc⟩ := hk5
  have hi0 := hi.1
  have hi1 := hi.2.1
  have hi2 := hi.2.2.1
  have hi3 := hi.2.2.2.2.1
  refine z_start (lv := [.ref 88]) K_Mo_rules rfl rfl (Nat.le_refl _) (Nat.le_refl _) (Nat.le_of_ble_eq_true rfl) rfl ?_
  refine z_mu (show μ = pm (zu (zu μ 91 (.inl (0, 618, .inl q91))) 93 (.inl (1, 100, .inl q93))) s (mk S mo pr fa sc ch rc ρ) by rw [zu_id h91, zu_id h93, pm_id h2 h1]) ?_
  have hrd : rdS G n u (zu (zu μ 91 (.inl (0, 618, .inl (mk S mo pr fa sc ch rc ρ)))) 93 (.inl (1, 100, .inl q93))) (tcF b ln tk) (tpF b ln) (teF b ln) (NF b ln) := rdS_of (by rw [zu_n (by decide), zu_n (by decide)]; exact h92) hb hln tk
  have lenb : ∀ {rc1 la1 : Nat} {ρ1 : Nat → Int32}, rkL rc1 la1 ρ1 (ruL (tcF b ln tk)).2.2 → rc1 ≤ 8 := fun g => by have := g.1; have e0 : ([] : zRu).length = 0 := rfl; omega
  refine z_al0 (pc' := 1) 0 rfl rfl ?_
  refine z_callV0 (pc' := 4) 1 rfl rfl k_Mo_194 (by first | exact pm_f | exact pm_1 | (rw [pm_o (by decide)]; first | exact zu_s | (rw [zu_n (by decide)]; first | exact zu_s | (rw [zu_n (by decide)]; assumption)))) (c_Mo_thinks) (by decide) (Nat.le_refl _) (Nat.le_refl _) rfl rfl (Nat.le_of_ble_eq_true rfl) ?_
  refine z_al0 (pc' := 5) 2 rfl rfl ?_
  refine z_getf (pc' := 8) 3 rfl rfl f_Mo_9_12 (by first | exact pm_f | exact pm_1 | (rw [pm_o (by decide)]; first | exact zu_s | (rw [zu_n (by decide)]; first | exact zu_s | (rw [zu_n (by decide)]; assumption)))) (by rfl) ?_
  refine z_bipush (v := nI 7) (by decide) (pc' := 10) 4 rfl rfl ?_
  refine z_iconst (v := nI 0) (by decide) (pc' := 11) 5 rfl rfl ?_
  refine z_iast (pc' := 12) 6 rfl rfl (by first | exact pm_f | exact pm_1 | (rw [pm_o (by decide)]; first | exact zu_s | (rw [zu_n (by decide)]; first | exact zu_s | (rw [zu_n (by decide)]; assumption)))) (by omega) (by decide) ?_
  rw [pm_s1, mk_u_rc]
  refine z_al0 (pc' := 13) 7 rfl rfl ?_
  refine z_iconst (v := nI 0) (by decide) (pc' := 14) 8 rfl rfl ?_
  refine z_putf (pc' := 17) 9 rfl rfl f_Mo_140_12 (by first | exact pm_f | exact pm_1 | (rw [pm_o (by decide)]; first | exact zu_s | (rw [zu_n (by decide)]; first | exact zu_s | (rw [zu_n (by decide)]; assumption)))) rfl rfl (by rfl) (by rfl) ?_
  dsimp only [List.set]
  rw [mob_8, pm_s0]
  refine z_al0 (pc' := 18) 10 rfl rfl ?_
  refine z_iconst (v := nI 0) (by decide) (pc' := 19) 11 rfl rfl ?_
  refine z_putf (pc' := 22) 12 rfl rfl f_Mo_162_12 (by first | exact pm_f | exact pm_1 | (rw [pm_o (by decide)]; first | exact zu_s | (rw [zu_n (by decide)]; first | exact zu_s | (rw [zu_n (by decide)]; assumption)))) rfl rfl (by rfl) (by rfl) ?_
  dsimp only [List.set]
  rw [mob_10, pm_s0]
  refine z_al0 (pc' := 23) 13 rfl rfl ?_
  refine z_iconst (v := nI 0) (by decide) (pc' := 24) 14 rfl rfl ?_
  refine z_putf (pc' := 27) 15 rfl rfl f_Mo_175_12 (by first | exact pm_f | exact pm_1 | (rw [pm_o (by decide)]; first | exact zu_s | (rw [zu_n (by decide)]; first | exact zu_s | (rw [zu_n (by decide)]; assumption)))) rfl rfl (by rfl) (by rfl) ?_
  dsimp only [List.set]
  rw [mob_11, pm_s0]
  refine z_al0 (pc' := 28) 16 rfl rfl ?_
  refine z_iconst (v := nI 0) (by decide) (pc' := 29) 17 rfl rfl ?_
  refine z_putf (pc' := 32) 18 rfl rfl f_Mo_169_12 (by first | exact pm_f | exact pm_1 | (rw [pm_o (by decide)]; first | exact zu_s | (rw [zu_n (by decide)]; first | exact zu_s | (rw [zu_n (by decide)]; assumption)))) rfl rfl (by rfl) (by rfl) ?_
  dsimp only [List.set]
  rw [mob_12, pm_s0]
  obtain ⟨s1, es1⟩ : ∃ x, x = un (un (un (un s 8 (nI 0)) 10 (nI 0)) 11 (nI 0)) 12 (nI 0) := ⟨_, rfl⟩
  rw [← es1]
  have k1 : ∀ i, (i < 8 ∨ 12 < i) → s1 i = s i := fun i hi => by rw [es1, un_n (by omega), un_n (by omega), un_n (by omega), un_n (by omega)]
  refine z_al0 (pc' := 33) 19 rfl rfl ?_
  refine z_callV (pc' := 36) 20 rfl rfl k_Mo_166 (by first | exact pm_f | exact pm_1 | (rw [pm_o (by decide)]; first | exact zu_s | (rw [zu_n (by decide)]; first | exact zu_s | (rw [zu_n (by decide)]; assumption)))) (c_Mo_readsAt (by rw [zu_n (by decide), zu_n (by decide)]; exact h92) hb hln tk (s0 := s1) (e := 0) (by rw [k1 5 (by decide)]; exact h5) (Nat.zero_le _) (by rw [es1]; rfl) (Nat.zero_le _) tp_sk0) (by decide) (Nat.le_refl _) (Nat.le_refl _) rfl rfl (Nat.le_of_ble_eq_true rfl) (fun r33 μ33 h33 => ?_)
  obtain ⟨y0, s33, y1, x33a, x33b⟩ := h33
  subst y0; subst y1
  dsimp only [Option.toList_none, List.nil_append]
  have hS33 : ST (tcF b ln tk) (tpF b ln) (teF b ln) s33 0 false 0 0 := ⟨x33a, by rw [x33b 10 (by decide), es1]; rfl, by rw [x33b 11 (by decide), es1]; rfl, by rw [x33b 12 (by decide), es1]; rfl⟩
  have k0 : ∀ i, (i < 6 ∨ 12 < i) → s33 i = s i := fun i hi => by rw [x33b i (by omega), k1 i (by omega)]
  refine l_Mo_rules hT hrd (s0 := s33) (R := ruL (tcF b ln tk)) (F := F) (fun s9 ρ9 rc9 la9 b9 hS9 k9 hgood hbad => ?_) 8 0 s33 ρ 0 0 [] rfl (Nat.zero_le _) (Nat.le_refl _) ⟨rfl, fun r a b ic im hx => by cases hx⟩ hS33 (fun _ _ => rfl) hF
  refine z_al0 (pc' := 60) 31 rfl rfl ?_
  refine z_iconst (v := nI 0) (by decide) (pc' := 61) 32 rfl rfl ?_
  refine z_putf (pc' := 64) 33 rfl rfl f_Mo_128_12 (by first | exact pm_f | exact pm_1 | (rw [pm_o (by decide)]; first | exact zu_s | (rw [zu_n (by decide)]; first | exact zu_s | (rw [zu_n (by decide)]; assumption)))) rfl rfl (by rfl) (by rfl) ?_
  dsimp only [List.set]
  rw [mob_5, pm_s0]
  refine z_al0 (pc' := 65) 34 rfl rfl ?_
  refine z_getf (pc' := 68) 35 rfl rfl f_Mo_162_12 (by first | exact pm_f | exact pm_1 | (rw [pm_o (by decide)]; first | exact zu_s | (rw [zu_n (by decide)]; first | exact zu_s | (rw [zu_n (by decide)]; assumption)))) (by rfl) ?_
  rw [show un s9 5 (nI 0) 10 = s9 10 from rfl, hS9.2.1]
  first | refine z_if_eqB (pc' := 71) 36 rfl rfl (tgt := 83) rfl (fun h68 => ?_) (fun h68 => ?_) | refine z_if_eqN (pc' := 71) 36 rfl rfl (tgt := 83) rfl (by omega) (fun h68 => ?_) (fun h68 => ?_) | refine z_if_eq (pc' := 71) 36 rfl rfl (tgt := 83) rfl (fun h68 => ?_) (fun h68 => ?_)
  · refine z_al0 (pc' := 84) 44 rfl rfl ?_
    refine z_getf (pc' := 87) 45 rfl rfl f_Mo_9_12 (by first | exact pm_f | exact pm_1 | (rw [pm_o (by decide)]; first | exact zu_s | (rw [zu_n (by decide)]; first | exact zu_s | (rw [zu_n (by decide)]; assumption)))) (by rfl) ?_
    refine z_bipush (v := nI 7) (by decide) (pc' := 89) 46 rfl rfl ?_
    refine z_iald (pc' := 90) 47 rfl rfl (by first | exact pm_f | exact pm_1 | (rw [pm_o (by decide)]; first | exact zu_s | (rw [zu_n (by decide)]; first | exact zu_s | (rw [zu_n (by decide)]; assumption)))) (by omega) (by decide) ?_
    rw [mk_7]
    exact z_ireturn 48 rfl rfl (by first | rfl | exact zbo_nar) rfl rfl (by have hb0 : b9 = false := eq_false_of_ne_true h68; obtain ⟨g1, g2, g3, g4⟩ := hgood hb0; rw [ef9]; rw [f_rules, if_pos ⟨g1, g2⟩, ruA, if_pos ⟨g1, g2⟩, g3.1]; exact ⟨rfl, un s9 5 (nI 0), ⟨(k9 3 (by decide)).trans (k0 3 (by decide)), rfl, (k9 23 (by decide)).trans (k0 23 (by decide)), (k9 32 (by decide)).trans (k0 32 (by decide))⟩, mst_pm3 hst (dzM_L g3 (ruL_g hT) (by omega) (lenb g3)) ⟨hi, hx, hmo, lenb g3⟩, fun i hi => by rw [pm_o (by omega), zu_n (by omega), zu_n (by omega)]⟩)
  · refine z_al0 (pc' := 72) 37 rfl rfl ?_
    refine z_callV0 (pc' := 75) 38 rfl rfl k_Mo_200 (by first | exact pm_f | exact pm_1 | (rw [pm_o (by decide)]; first | exact zu_s | (rw [zu_n (by decide)]; first | exact zu_s | (rw [zu_n (by decide)]; assumption)))) (c_Mo_putsBack) (by decide) (Nat.le_refl _) (Nat.le_refl _) rfl rfl (Nat.le_of_ble_eq_true rfl) ?_
    refine z_bipush (v := (-100)) (by decide) (pc' := 77) 39 rfl rfl ?_
    refine z_al0 (pc' := 78) 40 rfl rfl ?_
    refine z_getf (pc' := 81) 41 rfl rfl f_Mo_137_12 (by first | exact pm_f | exact pm_1 | (rw [pm_o (by decide)]; first | exact zu_s | (rw [zu_n (by decide)]; first | exact zu_s | (rw [zu_n (by decide)]; assumption)))) (by rfl) ?_
    rw [show un s9 5 (nI 0) 7 = s9 7 from rfl, hS9.1.2.2.1]
    refine z_isub (pc' := 82) 42 rfl rfl ?_
    exact z_ireturn 43 rfl rfl (by first | rfl | exact zbo_nar) rfl rfl (by have hb1 := hbad h68; rw [ef9]; rw [f_rules, if_neg hb1, ruA, if_neg hb1]; exact ⟨rfl, un s9 5 (nI 0), ⟨(k9 3 (by decide)).trans (k0 3 (by decide)), rfl, (k9 23 (by decide)).trans (k0 23 (by decide)), (k9 32 (by decide)).trans (k0 32 (by decide))⟩, mst_pm3 hst hD hkk, fun i hi => by rw [pm_o (by omega), zu_n (by omega), zu_n (by omega)]⟩)
