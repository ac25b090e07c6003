def iX (S : Nat → Nat → Nat) (pr fa : Nat → Nat) : Prop := ∀ j, pr j ≤ 6 ∧ fa j ≤ 9 ∧ (j < S 0 0 → 1 ≤ fa j ∧ (pr j < S 0 1 ∨ pr j = 6))
theorem iX_set {S : Nat → Nat → Nat} {pr fa : Nat → Nat} (h : iX S pr fa) {g w f : Nat} (hw : w ≤ 6) (hw2 : w < S 0 1 ∨ w = 6) (hf : f ≤ 9) (hf1 : 1 ≤ f) : iX S (un pr g w) (un fa g f) := by
  intro j
  have hj := h j
  unfold un
  by_cases e : j = g
  · rw [if_pos e, if_pos e]; exact ⟨hw, hf, fun _ => ⟨hf1, hw2⟩⟩
  · rw [if_neg e, if_neg e]; exact hj
theorem iX_fa {S : Nat → Nat → Nat} {pr fa : Nat → Nat} (h : iX S pr fa) {g f : Nat} (hf : f ≤ 9) (hf1 : 1 ≤ f) : iX S pr (un fa g f) := by
  intro j
  have hj := h j
  unfold un
  by_cases e : j = g
  · rw [if_pos e]; exact ⟨hj.1, hf, fun q => ⟨hf1, (hj.2.2 q).2⟩⟩
  · rw [if_neg e]; exact hj
def gs2 (S : Nat → Nat → Nat) (t g : Nat) (pr fa : Nat → Nat) (us cs wo : Nat) : (Nat → Nat) × (Nat → Nat) × Nat × Nat × Nat :=
  if blB S (pr g) t = true ∧ us / 2 ^ (pr g) % 2 = 0 then (pr, un fa g (S 3 g), us ||| 2 ^ (pr g), cs ||| 2 ^ g, wo + gS S g (pr g) t)
  else if pr g = 6 then (pr, fa, us, cs, wo)
  else if fa g ≤ 1 then (un pr g 6, un fa g (S 3 g), us, cs, wo) else (pr, un fa g (fa g - 1), us, cs, wo)
/-- what a girl does first, if there is a calm for her -/
def ca1 (S : Nat → Nat → Nat) (D : Nat → Nat → Nat → Nat → Nat → Nat → Nat) (t g : Nat) (pr fa : Nat → Nat) : (Nat → Nat) × (Nat → Nat) :=
  if blB S (pr g) t = true then (pr, fa) else cal S t g (D (S 1 g) t (fa g) (S 3 g) (S 2 g) g) pr fa
abbrev z5 : Type := (Nat → Nat) × (Nat → Nat) × Nat × Nat × Nat
/-- one girl's part of a month -/
def gst (S : Nat → Nat → Nat) (D : Nat → Nat → Nat → Nat → Nat → Nat → Nat) (t act g : Nat) (σ : z5) : z5 :=
  if g + 1 = act then σ else gs2 S t g (ca1 S D t g σ.1 σ.2.1).1 (ca1 S D t g σ.1 σ.2.1).2 σ.2.2.1 σ.2.2.2.1 σ.2.2.2.2
def mgo (S : Nat → Nat → Nat) (D : Nat → Nat → Nat → Nat → Nat → Nat → Nat) (t act : Nat) : Nat → Nat → z5 → z5
  | 0, _, σ => σ
  | j + 1, k, σ => mgo S D t act j (k + 1) (gst S D t act k σ)
/-- a month: what comes of all girls' parts -/
def mon (S : Nat → Nat → Nat) (D : Nat → Nat → Nat → Nat → Nat → Nat → Nat) (t act : Nat) (pr fa : Nat → Nat) : z5 := mgo S D t act (S 0 0) 0 (pr, fa, 0, 0, 0)
theorem iX_cal {S : Nat → Nat → Nat} (hi : iS S) {pr fa : Nat → Nat} (h : iX S pr fa) {t g dz : Nat} (hg : g < S 0 0) : iX S (cal S t g dz pr fa).1 (cal S t g dz pr fa).2 := by
  have hs := hi.2.2.2.2.2 g
  have hd := hs.2.2.2.2.2.2.2.2 hg
  have hfw := fwN_le S t g pr (S 0 1) hi.2.1
  have h1 := hi.2.1
  have e0 : fwN S t g pr (S 0 1) = fw S t g pr := rfl
  rw [e0] at hfw
  unfold cal
  split
  · exact iX_set h (by omega) (Or.inr rfl) (by omega) hd
  · split
    · split
      · exact h
      · exact iX_set h (by omega) (by omega) (by omega) hd
    · exact h
theorem iX_ca1 {S : Nat → Nat → Nat} (hi : iS S) {D : Nat → Nat → Nat → Nat → Nat → Nat → Nat} {pr fa : Nat → Nat} (h : iX S pr fa) {t g : Nat} (hg : g < S 0 0) : iX S (ca1 S D t g pr fa).1 (ca1 S D t g pr fa).2 := by
  unfold ca1
  split
  · exact h
  · exact iX_cal hi h hg
theorem gs2_ok {S : Nat → Nat → Nat} (hi : iS S) {pr fa : Nat → Nat} (h : iX S pr fa) {t g us cs wo : Nat} (hg : g < S 0 0) (hu : us < 64) : iX S (gs2 S t g pr fa us cs wo).1 (gs2 S t g pr fa us cs wo).2.1 ∧ (gs2 S t g pr fa us cs wo).2.2.1 < 64 := by
  have hs := hi.2.2.2.2.2 g
  have hd := hs.2.2.2.2.2.2.2.2 hg
  have hj := h g
  have h1 := hi.2.1
  unfold gs2
  split
  · next q =>
    have hb := blB_iff.mp q.1
    refine ⟨iX_fa h (by omega) hd, Nat.or_lt_two_pow (n := 6) hu (Nat.pow_lt_pow_right (by decide) ?_)⟩
    have := hb.1
    omega
  · split
    · exact ⟨h, hu⟩
    · split
      · exact ⟨iX_set h (by omega) (Or.inr rfl) (by omega) hd, hu⟩
      · exact ⟨iX_fa h (by omega) (by omega), hu⟩
theorem gst_ok {S : Nat → Nat → Nat} (hi : iS S) {D : Nat → Nat → Nat → Nat → Nat → Nat → Nat} {σ : z5} (h : iX S σ.1 σ.2.1) {t act g : Nat} (hg : g < S 0 0) (hu : σ.2.2.1 < 64) : iX S (gst S D t act g σ).1 (gst S D t act g σ).2.1 ∧ (gst S D t act g σ).2.2.1 < 64 := by
  unfold gst
  split
  · exact ⟨h, hu⟩
  · exact gs2_ok hi (iX_ca1 hi h hg) hg hu
theorem mgo_ok {S : Nat → Nat → Nat} (hi : iS S) {D : Nat → Nat → Nat → Nat → Nat → Nat → Nat} {t act : Nat} : ∀ (j k : Nat) (σ : z5), k + j ≤ S 0 0 → iX S σ.1 σ.2.1 → σ.2.2.1 < 64 → iX S (mgo S D t act j k σ).1 (mgo S D t act j k σ).2.1
  | 0, _, _, _, h, _ => h
  | j + 1, k, σ, e, h, hu => by
    have := gst_ok (D := D) (t := t) (act := act) hi h (g := k) (by omega) hu
    exact mgo_ok hi j (k + 1) _ (by omega) this.1 this.2
theorem mon_ok {S : Nat → Nat → Nat} (hi : iS S) {D : Nat → Nat → Nat → Nat → Nat → Nat → Nat} {t act : Nat} {pr fa : Nat → Nat} (h : iX S pr fa) : iX S (mon S D t act pr fa).1 (mon S D t act pr fa).2.1 := mgo_ok hi (S 0 0) 0 _ (by omega) h (by show 0 < 64; decide)
set_option maxHeartbeats 4000000 in
set_option maxRecDepth 100000 in
theorem l_Cr_passes65 {G : zG} {n u : Nat} {ν : Nat → va_E} {S : Nat → Nat → Nat} {sc ch : Int32} (hco : isCo ν S sc ch) (hi : iS S) {a mo cs : Nat} {pr fa q : Nat → Nat} (ha : a = 13 ∨ 43 ≤ a) {act us wo g : Nat} {Φ : zP} (hx : iX S pr fa) (hm : mo ≤ 16) (hg : g < S 0 0) (hu : us < 64) (K : zW G 4 M_Cr_passes 165 [.ref a, .ref 5, .int (nI act), .int (nI (gs2 S mo g pr fa us cs wo).2.2.2.2), .int (nI (gs2 S mo g pr fa us cs wo).2.2.1), .int (nI g), .retAddr 0] [] n u (pcr ν a mo (gs2 S mo g pr fa us cs wo).2.2.2.1 (gs2 S mo g pr fa us cs wo).1 (gs2 S mo g pr fa us cs wo).2.1 q) n u Φ) :
    zW G 4 M_Cr_passes 65 [.ref a, .ref 5, .int (nI act), .int (nI wo), .int (nI us), .int (nI g), .retAddr 0] [] n u (pcr ν a mo cs pr fa q) n u Φ := by
  have hi0 := hi.1
  have hi1 := hi.2.1
  have hs9 := hi.2.2.2.2.2 g
  have hxg := hx g
  have hco0 := hco
  obtain ⟨m5, m6, m7, m8, m9, m10, m11, m12, m22⟩ := hco
  refine z_al0 (pc' := 66) 36 rfl rfl ?_
  refine z_getf (pc' := 69) 37 rfl rfl f_Cr_9_4 (by first | exact pcr_0 | exact pcr_1 | exact pcr_2 | exact pcr_3 | (rw [pcr_o (by omega)]; assumption)) (by rfl) ?_
  refine z_il5 (pc' := 71) 38 rfl rfl ?_
  refine z_iald (pc' := 72) 39 rfl rfl (by first | exact pcr_0 | exact pcr_1 | exact pcr_2 | exact pcr_3 | (rw [pcr_o (by omega)]; assumption)) (by omega) (by decide) ?_
  refine z_is6 rfl rfl (pc' := 74) 40 rfl rfl ?_
  refine z_al1 (pc' := 75) 41 rfl rfl ?_
  refine z_il6 (pc' := 77) 42 rfl rfl ?_
  refine z_al0 (pc' := 78) 43 rfl rfl ?_
  refine z_getf (pc' := 81) 44 rfl rfl f_Cr_23_4 (by first | exact pcr_0 | exact pcr_1 | exact pcr_2 | exact pcr_3 | (rw [pcr_o (by omega)]; assumption)) (by rfl) ?_
  refine z_callV1 (pc' := 84) 45 rfl rfl k_Cr_60 (by first | exact pcr_0 | exact pcr_1 | exact pcr_2 | exact pcr_3 | (rw [pcr_o (by omega)]; assumption)) (c_Co_blows (isCo_pcr hco0 ha) hi (by omega) (by omega)) (by decide) (Nat.le_refl _) (Nat.le_refl _) rfl rfl (Nat.le_of_ble_eq_true rfl) ?_
  first | refine z_if_eqB (pc' := 87) 46 rfl rfl (tgt := 151) rfl (fun h84 => ?_) (fun h84 => ?_) | refine z_if_eqN (pc' := 87) 46 rfl rfl (tgt := 151) rfl (by omega) (fun h84 => ?_) (fun h84 => ?_) | refine z_if_eq (pc' := 87) 46 rfl rfl (tgt := 151) rfl (fun h84 => ?_) (fun h84 => ?_)
  · refine z_il6 (pc' := 153) 85 rfl rfl ?_
    refine z_bipush (v := nI 6) (by decide) (pc' := 155) 86 rfl rfl ?_
    first | refine z_icmp_eqN (pc' := 158) 87 rfl rfl (tgt := 165) rfl (by omega) (by omega) (fun h155 => ?_) (fun h155 => ?_) | refine z_icmp_eq (pc' := 158) 87 rfl rfl (tgt := 165) rfl (fun h155 => ?_) (fun h155 => ?_)
    · refine z_less6 ?_
      rw [gs2, if_neg (fun z => h84 z.1), if_pos h155] at K
      exact K
    · refine z_al0 (pc' := 159) 88 rfl rfl ?_
      refine z_al1 (pc' := 160) 89 rfl rfl ?_
      refine z_il5 (pc' := 162) 90 rfl rfl ?_
      refine z_callV0 (pc' := 165) 91 rfl rfl k_Cr_76 (by first | exact pcr_0 | exact pcr_1 | exact pcr_2 | exact pcr_3 | (rw [pcr_o (by omega)]; assumption)) (c_Cr_wearsOut hco0 hi ha (by omega) (by omega) (by omega)) (by decide) (Nat.le_refl _) (Nat.le_refl _) rfl rfl (Nat.le_of_ble_eq_true rfl) ?_
      refine z_less6 ?_
      rw [gs2, if_neg (fun z => h84 z.1), if_neg h155] at K
      by_cases h1 : fa g ≤ 1
      · rw [if_pos h1] at K ⊢
        exact K
      · rw [if_neg h1] at K ⊢
        exact K
  · refine z_il4 (pc' := 89) 47 rfl rfl ?_
    refine z_il6 (pc' := 91) 48 rfl rfl ?_
    refine z_ishr (pc' := 92) 49 rfl rfl ?_
    refine z_iconst (v := nI 1) (by decide) (pc' := 93) 50 rfl rfl ?_
    refine z_iand (pc' := 94) 51 rfl rfl ?_
    rw [nb_bit (by omega) (by omega)]
    first | refine z_if_neB (pc' := 97) 52 rfl rfl (tgt := 151) rfl (fun h94 => ?_) (fun h94 => ?_) | refine z_if_neN (pc' := 97) 52 rfl rfl (tgt := 151) rfl (by omega) (fun h94 => ?_) (fun h94 => ?_) | refine z_if_ne (pc' := 97) 52 rfl rfl (tgt := 151) rfl (fun h94 => ?_) (fun h94 => ?_)
    · refine z_il6 (pc' := 153) 85 rfl rfl ?_
      refine z_bipush (v := nI 6) (by decide) (pc' := 155) 86 rfl rfl ?_
      first | refine z_icmp_eqN (pc' := 158) 87 rfl rfl (tgt := 165) rfl (by omega) (by omega) (fun h155 => ?_) (fun h155 => ?_) | refine z_icmp_eq (pc' := 158) 87 rfl rfl (tgt := 165) rfl (fun h155 => ?_) (fun h155 => ?_)
      · refine z_less6 ?_
        rw [gs2, if_neg (fun z => h94 z.2), if_pos h155] at K
        exact K
      · refine z_al0 (pc' := 159) 88 rfl rfl ?_
        refine z_al1 (pc' := 160) 89 rfl rfl ?_
        refine z_il5 (pc' := 162) 90 rfl rfl ?_
        refine z_callV0 (pc' := 165) 91 rfl rfl k_Cr_76 (by first | exact pcr_0 | exact pcr_1 | exact pcr_2 | exact pcr_3 | (rw [pcr_o (by omega)]; assumption)) (c_Cr_wearsOut hco0 hi ha (by omega) (by omega) (by omega)) (by decide) (Nat.le_refl _) (Nat.le_refl _) rfl rfl (Nat.le_of_ble_eq_true rfl) ?_
        refine z_less6 ?_
        rw [gs2, if_neg (fun z => h94 z.2), if_neg h155] at K
        by_cases h1 : fa g ≤ 1
        · rw [if_pos h1] at K ⊢
          exact K
        · rw [if_neg h1] at K ⊢
          exact K
    · refine z_il4 (pc' := 99) 53 rfl rfl ?_
      refine z_iconst (v := nI 1) (by decide) (pc' := 100) 54 rfl rfl ?_
      refine z_il6 (pc' := 102) 55 rfl rfl ?_
      refine z_ishl (pc' := 103) 56 rfl rfl ?_
      rw [nb_shl1 (by omega)]
      refine z_ior (pc' := 104) 57 rfl rfl ?_
      rw [nb_or]
      refine z_is4 rfl rfl (pc' := 106) 58 rfl rfl ?_
      refine z_al0 (pc' := 107) 59 rfl rfl ?_
      refine z_dup rfl (pc' := 108) 60 rfl rfl ?_
      refine z_getf (pc' := 111) 61 rfl rfl f_Cr_27_4 (by first | exact pcr_0 | exact pcr_1 | exact pcr_2 | exact pcr_3 | (rw [pcr_o (by omega)]; assumption)) (by rfl) ?_
      refine z_iconst (v := nI 1) (by decide) (pc' := 112) 62 rfl rfl ?_
      refine z_il5 (pc' := 114) 63 rfl rfl ?_
      refine z_ishl (pc' := 115) 64 rfl rfl ?_
      rw [nb_shl1 (by omega)]
      refine z_ior (pc' := 116) 65 rfl rfl ?_
      rw [nb_or]
      refine z_putf (pc' := 119) 66 rfl rfl f_Cr_27_4 (by first | exact pcr_0 | exact pcr_1 | exact pcr_2 | exact pcr_3 | (rw [pcr_o (by omega)]; assumption)) rfl rfl (by rfl) (by rfl) ?_
      dsimp only [List.set]
      rw [pcr_s0]
      refine z_al0 (pc' := 120) 67 rfl rfl ?_
      refine z_getf (pc' := 123) 68 rfl rfl f_Cr_15_4 (by first | exact pcr_0 | exact pcr_1 | exact pcr_2 | exact pcr_3 | (rw [pcr_o (by omega)]; assumption)) (by rfl) ?_
      refine z_il5 (pc' := 125) 69 rfl rfl ?_
      refine z_al1 (pc' := 126) 70 rfl rfl ?_
      refine z_getr (pc' := 129) 71 rfl rfl f_Cr_36_3 (by first | exact pcr_0 | exact pcr_1 | exact pcr_2 | exact pcr_3 | (rw [pcr_o (by omega)]; assumption)) (by rfl) ?_
      refine z_il5 (pc' := 131) 72 rfl rfl ?_
      refine z_iald (pc' := 132) 73 rfl rfl (by first | exact pcr_0 | exact pcr_1 | exact pcr_2 | exact pcr_3 | (rw [pcr_o (by omega)]; assumption)) (by omega) (by decide) ?_
      refine z_iast (pc' := 133) 74 rfl rfl (by first | exact pcr_0 | exact pcr_1 | exact pcr_2 | exact pcr_3 | (rw [pcr_o (by omega)]; assumption)) (by omega) (by decide) ?_
      rw [upd_n, pcr_s2]
      refine z_il3 (pc' := 134) 75 rfl rfl ?_
      refine z_al1 (pc' := 135) 76 rfl rfl ?_
      refine z_il5 (pc' := 137) 77 rfl rfl ?_
      refine z_il6 (pc' := 139) 78 rfl rfl ?_
      refine z_al0 (pc' := 140) 79 rfl rfl ?_
      refine z_getf (pc' := 143) 80 rfl rfl f_Cr_23_4 (by first | exact pcr_0 | exact pcr_1 | exact pcr_2 | exact pcr_3 | (rw [pcr_o (by omega)]; assumption)) (by rfl) ?_
      refine z_callV1 (pc' := 146) 81 rfl rfl k_Cr_72 (by first | exact pcr_0 | exact pcr_1 | exact pcr_2 | exact pcr_3 | (rw [pcr_o (by omega)]; assumption)) (c_Co_gainBy (isCo_pcr hco0 ha) hi (by omega) (by have := (blB_iff.mp h84).1; omega) hm) (by decide) (Nat.le_refl _) (Nat.le_refl _) rfl rfl (Nat.le_of_ble_eq_true rfl) ?_
      first | refine z_iaddN (pc' := 147) 82 rfl rfl ?_ | refine z_iadd (pc' := 147) 82 rfl rfl ?_
      refine z_is3 rfl rfl (pc' := 148) 83 rfl rfl ?_
      refine z_goto 84 rfl (tgt := 165) rfl ?_
      refine z_less6 ?_
      rw [gs2, if_pos ⟨h84, h94⟩] at K
      exact K
set_option maxHeartbeats 4000000 in
set_option maxRecDepth 100000 in
theorem l_Cr_passes {G : zG} {n u : Nat} {ν : Nat → va_E} {S : Nat → Nat → Nat} {sc ch : Int32} (hco : isCo ν S sc ch) (hi : iS S) {a mo : Nat} (ha : a = 13 ∨ 43 ≤ a) {β : Nat → Nat → Nat} {its : Nat → zI} {D : Nat → Nat → Nat → Nat → Nat → Nat → Nat} (hbk : isBk ν 17 β) (hD : dzB β its D) {act : Nat} (hm : mo ≤ 16) (hact : act < 2 ^ 31) : ∀ (j k : Nat) (pr fa q : Nat → Nat) (us cs wo : Nat), k + j = S 0 0 → iX S pr fa → us < 64 →
    zW G 4 M_Cr_passes 13 [.ref a, .ref 5, .int (nI act), .int (nI wo), .int (nI us), .int (nI k), .retAddr 0] [] n u (pcr ν a mo cs pr fa q) n u (zS (some (.int (nI (mgo S D mo act j k (pr, fa, us, cs, wo)).2.2.2.2))) (fun q9 : Nat → Nat => pcr ν a (mo + 1) (mgo S D mo act j k (pr, fa, us, cs, wo)).2.2.2.1 (mgo S D mo act j k (pr, fa, us, cs, wo)).1 (mgo S D mo act j k (pr, fa, us, cs, wo)).2.1 q9))
  | 0, k, pr, fa, q, us, cs, wo, e, hx, hu => by
    have hi0 := hi.1
    have hi1 := hi.2.1
    have hco0 := hco
    obtain ⟨m5, m6, m7, m8, m9, m10, m11, m12, m22⟩ := hco
    have hxk := hx k
    refine z_il5 (pc' := 15) 9 rfl rfl ?_
    refine z_al1 (pc' := 16) 10 rfl rfl ?_
    refine z_getf (pc' := 19) 11 rfl rfl f_Cr_41_3 (by first | exact pcr_0 | exact pcr_1 | exact pcr_2 | exact pcr_3 | (rw [pcr_o (by omega)]; assumption)) (by rfl) ?_
    first | refine z_icmp_geN (pc' := 22) 12 rfl rfl (tgt := 171) rfl (by omega) (by omega) (fun h19 => ?_) (fun h19 => ?_) | refine z_icmp_ge (pc' := 22) 12 rfl rfl (tgt := 171) rfl (fun h19 => ?_) (fun h19 => ?_)
    · refine z_al0 (pc' := 172) 94 rfl rfl ?_
      refine z_dup rfl (pc' := 173) 95 rfl rfl ?_
      refine z_getf (pc' := 176) 96 rfl rfl f_Cr_23_4 (by first | exact pcr_0 | exact pcr_1 | exact pcr_2 | exact pcr_3 | (rw [pcr_o (by omega)]; assumption)) (by rfl) ?_
      refine z_iconst (v := nI 1) (by decide) (pc' := 177) 97 rfl rfl ?_
      first | refine z_iaddN (pc' := 178) 98 rfl rfl ?_ | refine z_iadd (pc' := 178) 98 rfl rfl ?_
      refine z_putf (pc' := 181) 99 rfl rfl f_Cr_23_4 (by first | exact pcr_0 | exact pcr_1 | exact pcr_2 | exact pcr_3 | (rw [pcr_o (by omega)]; assumption)) rfl rfl (by rfl) (by rfl) ?_
      dsimp only [List.set]
      rw [pcr_s0]
      refine z_il3 (pc' := 182) 100 rfl rfl ?_
      exact z_ireturn 101 rfl rfl (by first | rfl | exact zbo_nar) rfl rfl (by exact ⟨rfl, q, rfl⟩)
    · exfalso; omega
  | j + 1, k, pr, fa, q, us, cs, wo, e, hx, hu => by
    have hi0 := hi.1
    have hi1 := hi.2.1
    have hco0 := hco
    obtain ⟨m5, m6, m7, m8, m9, m10, m11, m12, m22⟩ := hco
    have hxk := hx k
    refine z_il5 (pc' := 15) 9 rfl rfl ?_
    refine z_al1 (pc' := 16) 10 rfl rfl ?_
    refine z_getf (pc' := 19) 11 rfl rfl f_Cr_41_3 (by first | exact pcr_0 | exact pcr_1 | exact pcr_2 | exact pcr_3 | (rw [pcr_o (by omega)]; assumption)) (by rfl) ?_
    first | refine z_icmp_geN (pc' := 22) 12 rfl rfl (tgt := 171) rfl (by omega) (by omega) (fun h19 => ?_) (fun h19 => ?_) | refine z_icmp_ge (pc' := 22) 12 rfl rfl (tgt := 171) rfl (fun h19 => ?_) (fun h19 => ?_)
    · exfalso; omega
    · refine z_il5 (pc' := 24) 13 rfl rfl ?_
      refine z_iconst (v := nI 1) (by decide) (pc' := 25) 14 rfl rfl ?_
      first | refine z_iaddN (pc' := 26) 15 rfl rfl ?_ | refine z_iadd (pc' := 26) 15 rfl rfl ?_
      refine z_il2 (pc' := 27) 16 rfl rfl ?_
      first | refine z_icmp_neN (pc' := 30) 17 rfl rfl (tgt := 33) rfl (by omega) (by omega) (fun h27 => ?_) (fun h27 => ?_) | refine z_icmp_ne (pc' := 30) 17 rfl rfl (tgt := 33) rfl (fun h27 => ?_) (fun h27 => ?_)
      · refine z_al1 (pc' := 34) 19 rfl rfl ?_
        refine z_al0 (pc' := 35) 20 rfl rfl ?_
        refine z_getf (pc' := 38) 21 rfl rfl f_Cr_9_4 (by first | exact pcr_0 | exact pcr_1 | exact pcr_2 | exact pcr_3 | (rw [pcr_o (by omega)]; assumption)) (by rfl) ?_
        refine z_il5 (pc' := 40) 22 rfl rfl ?_
        refine z_iald (pc' := 41) 23 rfl rfl (by first | exact pcr_0 | exact pcr_1 | exact pcr_2 | exact pcr_3 | (rw [pcr_o (by omega)]; assumption)) (by omega) (by decide) ?_
        refine z_al0 (pc' := 42) 24 rfl rfl ?_
        refine z_getf (pc' := 45) 25 rfl rfl f_Cr_23_4 (by first | exact pcr_0 | exact pcr_1 | exact pcr_2 | exact pcr_3 | (rw [pcr_o (by omega)]; assumption)) (by rfl) ?_
        refine z_callV1 (pc' := 48) 26 rfl rfl k_Cr_60 (by first | exact pcr_0 | exact pcr_1 | exact pcr_2 | exact pcr_3 | (rw [pcr_o (by omega)]; assumption)) (c_Co_blows (isCo_pcr hco0 ha) hi (by omega) (by omega)) (by decide) (Nat.le_refl _) (Nat.le_refl _) rfl rfl (Nat.le_of_ble_eq_true rfl) ?_
        first | refine z_if_neB (pc' := 51) 27 rfl rfl (tgt := 65) rfl (fun h48 => ?_) (fun h48 => ?_) | refine z_if_neN (pc' := 51) 27 rfl rfl (tgt := 65) rfl (by omega) (fun h48 => ?_) (fun h48 => ?_) | refine z_if_ne (pc' := 51) 27 rfl rfl (tgt := 65) rfl (fun h48 => ?_) (fun h48 => ?_)
        · have c9 : ca1 S D mo k pr fa = (pr, fa) := if_pos h48
          have e9 : gst S D mo act k (pr, fa, us, cs, wo) = gs2 S mo k (ca1 S D mo k pr fa).1 (ca1 S D mo k pr fa).2 us cs wo := if_neg h27
          have hg9 := gs2_ok (t := mo) (us := us) (cs := cs) (wo := wo) hi hx (g := k) (by omega) hu
          rw [mgo, e9, c9]
          refine l_Cr_passes65 hco0 hi ha hx hm (by omega) hu ?_
          first | refine z_inc5N rfl rfl (pc' := 168) 92 rfl rfl ?_ | refine z_inc5 rfl rfl rfl (pc' := 168) 92 rfl rfl ?_
          refine z_goto 93 rfl (tgt := 13) rfl ?_
          exact l_Cr_passes hco0 hi ha hbk hD hm hact j (k + 1) _ _ _ _ _ _ (by omega) hg9.1 hg9.2
        · refine z_al0 (pc' := 52) 28 rfl rfl ?_
          refine z_al1 (pc' := 53) 29 rfl rfl ?_
          refine z_il5 (pc' := 55) 30 rfl rfl ?_
          refine z_al0 (pc' := 56) 31 rfl rfl ?_
          refine z_al1 (pc' := 57) 32 rfl rfl ?_
          refine z_il5 (pc' := 59) 33 rfl rfl ?_
          refine z_callV1 (pc' := 62) 34 rfl rfl k_Cr_64 (by first | exact pcr_0 | exact pcr_1 | exact pcr_2 | exact pcr_3 | (rw [pcr_o (by omega)]; assumption)) (c_Cr_doesInCalm hco0 hi ha hbk hD (by omega) hm (fun j => (hx j).2.1)) (by decide) (Nat.le_refl _) (Nat.le_refl _) rfl rfl (Nat.le_of_ble_eq_true rfl) ?_
          refine z_callV0 (pc' := 65) 35 rfl rfl k_Cr_68 (by first | exact pcr_0 | exact pcr_1 | exact pcr_2 | exact pcr_3 | (rw [pcr_o (by omega)]; assumption)) (c_Cr_meetsCalm hco0 hi ha (by omega) hm (by rw [← hD.2.1 _ _ _ _ _ _ q]; exact tlN_le hD.1 _ _ (by omega)) (fun j => (hx j).1)) (by decide) (Nat.le_refl _) (Nat.le_refl _) rfl rfl (Nat.le_of_ble_eq_true rfl) ?_
          have c9 : ca1 S D mo k pr fa = cal S mo k (D (S 1 k) mo (fa k) (S 3 k) (S 2 k) k) pr fa := if_neg h48
          have e9 : gst S D mo act k (pr, fa, us, cs, wo) = gs2 S mo k (ca1 S D mo k pr fa).1 (ca1 S D mo k pr fa).2 us cs wo := if_neg h27
          have hg9 := gs2_ok (t := mo) (us := us) (cs := cs) (wo := wo) hi (iX_cal (t := mo) (dz := D (S 1 k) mo (fa k) (S 3 k) (S 2 k) k) hi hx (by omega)) (g := k) (by omega) hu
          rw [mgo, e9, c9]
          refine l_Cr_passes65 hco0 hi ha (iX_cal (t := mo) (dz := D (S 1 k) mo (fa k) (S 3 k) (S 2 k) k) hi hx (by omega)) hm (by omega) hu ?_
          first | refine z_inc5N rfl rfl (pc' := 168) 92 rfl rfl ?_ | refine z_inc5 rfl rfl rfl (pc' := 168) 92 rfl rfl ?_
          refine z_goto 93 rfl (tgt := 13) rfl ?_
          exact l_Cr_passes hco0 hi ha hbk hD hm hact j (k + 1) _ _ _ _ _ _ (by omega) hg9.1 hg9.2
      · refine z_goto 18 rfl (tgt := 165) rfl ?_
        first | refine z_inc5N rfl rfl (pc' := 168) 92 rfl rfl ?_ | refine z_inc5 rfl rfl rfl (pc' := 168) 92 rfl rfl ?_
        refine z_goto 93 rfl (tgt := 13) rfl ?_
        have e9 : gst S D mo act k (pr, fa, us, cs, wo) = (pr, fa, us, cs, wo) := if_pos h27
        rw [mgo, e9]
        exact l_Cr_passes hco0 hi ha hbk hD hm hact j (k + 1) pr fa q us cs wo (by omega) hx hu
set_option maxHeartbeats 4000000 in
set_option maxRecDepth 100000 in
theorem c_Cr_passes {G : zG} {n u : Nat} {ν : Nat → va_E} {S : Nat → Nat → Nat} {sc ch : Int32} (hco : isCo ν S sc ch) (hi : iS S) {a mo cs : Nat} {pr fa q : Nat → Nat} (ha : a = 13 ∨ 43 ≤ a) {β : Nat → Nat → Nat} {its : Nat → zI} {D : Nat → Nat → Nat → Nat → Nat → Nat → Nat} (hbk : isBk ν 17 β) (hD : dzB β its D) {act : Nat} (hm : mo ≤ 16) (hact : act < 2 ^ 31) (hx : iX S pr fa) :
    zMet G 4 M_Cr_passes [.ref a, .ref 5, .int (nI act)] n u (pcr ν a mo cs pr fa q) n u (zS (some (.int (nI (mon S D mo act pr fa).2.2.2.2))) (fun q9 : Nat → Nat => pcr ν a (mo + 1) (mon S D mo act pr fa).2.2.2.1 (mon S D mo act pr fa).1 (mon S D mo act pr fa).2.1 q9)) := by
  refine z_start (lv := [.ref a, .ref 5, .int (nI act), .retAddr 0, .retAddr 0, .retAddr 0, .retAddr 0]) K_Cr_passes rfl rfl (Nat.le_refl _) (Nat.le_refl _) (Nat.le_of_ble_eq_true rfl) rfl ?_
  refine z_iconst (v := nI 0) (by decide) (pc' := 1) 0 rfl rfl ?_
  refine z_is3 rfl rfl (pc' := 2) 1 rfl rfl ?_
  refine z_iconst (v := nI 0) (by decide) (pc' := 3) 2 rfl rfl ?_
  refine z_is4 rfl rfl (pc' := 5) 3 rfl rfl ?_
  refine z_al0 (pc' := 6) 4 rfl rfl ?_
  refine z_iconst (v := nI 0) (by decide) (pc' := 7) 5 rfl rfl ?_
  refine z_putf (pc' := 10) 6 rfl rfl f_Cr_27_4 (by first | exact pcr_0 | exact pcr_1 | exact pcr_2 | exact pcr_3 | (rw [pcr_o (by omega)]; assumption)) rfl rfl (by rfl) (by rfl) ?_
  dsimp only [List.set]
  rw [pcr_s0]
  refine z_iconst (v := nI 0) (by decide) (pc' := 11) 7 rfl rfl ?_
  refine z_is5 rfl rfl (pc' := 13) 8 rfl rfl ?_
  exact l_Cr_passes hco hi ha hbk hD hm hact (S 0 0) 0 pr fa q 0 0 0 (by omega) hx (by decide)
