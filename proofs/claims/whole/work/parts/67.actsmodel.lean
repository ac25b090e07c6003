/-! ===== act, trace, many: the reference ===== -/
def sst (s : Nat → Int32) (st : zAc) : Nat → Int32 := un (un s 32 (nI st.1)) 33 (bI st.2.1)
def pmt (ν : Nat → va_E) (s m : Nat → Int32) (st : zAc) : Nat → va_E := pm (zu ν 105 (.inl (0, 30, .inl st.2.2))) (sst s st) m
theorem un32 {s : Nat → Int32} {a b c : Int32} : un (un (un s 32 a) 33 c) 32 b = un (un s 32 b) 33 c := by
  funext i
  unfold un
  by_cases h : i = 32
  · subst h; rfl
  · rw [if_neg h]
    by_cases h2 : i = 33
    · rw [if_pos h2, if_pos h2]
    · rw [if_neg h2, if_neg h2, if_neg h, if_neg h]
theorem pmt_105 {ν : Nat → va_E} {s m : Nat → Int32} {b : Nat} {p : Bool} {tr f : Nat → Int32} : zu (pmt ν s m (b, p, tr)) 105 (.inl (0, 30, .inl f)) = pmt ν s m (b, p, f) := by
  unfold pmt pm
  rw [zu_sw (a := 89) (b := 105) (by decide), zu_sw (a := 88) (b := 105) (by decide), zu_zu]
  rfl
theorem pmt_32 {ν : Nat → va_E} {s m : Nat → Int32} {b b' : Nat} {p : Bool} {tr : Nat → Int32} : zu (pmt ν s m (b, p, tr)) 88 (mob (un (sst s (b, p, tr)) 32 (nI b'))) = pmt ν s m (b', p, tr) := by
  unfold pmt
  rw [pm_s0]
  show pm _ (un (un (un s 32 (nI b)) 33 (bI p)) 32 (nI b')) m = _
  rw [un32]
  rfl
theorem pmt_33 {ν : Nat → va_E} {s m : Nat → Int32} {st : zAc} {q : Bool} : zu (pmt ν s m st) 88 (mob (un (sst s st) 33 (bI q))) = pmt ν s m (st.1, q, st.2.2) := by
  unfold pmt
  rw [pm_s0]
  show pm _ (un (un (un s 32 (nI st.1)) 33 (bI st.2.1)) 33 (bI q)) m = _
  rw [un_un]
  rfl
theorem pmt_f {ν : Nat → va_E} {s m : Nat → Int32} {st : zAc} : pmt ν s m st 88 = mob (sst s st) := pm_0
theorem pf_b {body : Nat} {st : zAc} : (bgS body st).2.1 = st.2.1 := by
  unfold bgS
  split <;> rfl
theorem pf_sa {k g : Nat} {x : Int32} {st : zAc} : (saK k g x st).2.2.1 = st.2.1 := by
  unfold saK
  split
  · exact pf_b.trans pf_b
  · split
    · exact pf_b.trans pf_b
    · exact pf_b
theorem pf_cp {k g w : Nat} {x : Int32} {st : zAc} : (caP k g w x st).2.2.1 = st.2.1 := pf_sa.trans pf_b
theorem pf_ca {k g w : Nat} {x : Int32} {st : zAc} : (caK k g w x st).2.2.1 = st.2.1 := by
  unfold caK
  split
  · exact (pf_cp (w := w)).trans pf_b
  · split
    · exact (pf_cp (w := w)).trans pf_b
    · exact pf_cp
/-- behind a parting nothing begins -/
theorem pt_b {body : Nat} {st : zAc} (h : st.2.1 = true) : bgS body st = st := if_neg (fun z => by rw [h] at z; cases z.1)
theorem pt_sa {k g : Nat} {x : Int32} {st : zAc} (h : st.2.1 = true) : (saK k g x st).2 = st := by
  unfold saK saP
  split
  · show bgS 10 (bgS 20 st) = st
    rw [pt_b h, pt_b h]
  · split
    · show bgS 10 (bgS 50 st) = st
      rw [pt_b h, pt_b h]
    · exact pt_b h
theorem pt_ca {k g w : Nat} {x : Int32} {st : zAc} (h : st.2.1 = true) : (caK k g w x st).2 = st := by
  unfold caK caP
  split
  · show (saK k g x (bgS 11 (bgS 30 st))).2 = st
    rw [pt_b h, pt_b h, pt_sa h]
  · split
    · show (saK k g x (bgS 11 (bgS 60 st))).2 = st
      rw [pt_b h, pt_b h, pt_sa h]
    · show (saK k g x (bgS 11 st)).2 = st
      rw [pt_b h, pt_sa h]
theorem rem_m1 (x : Int32) : x - x / (-1) * (-1) = 0 := by
  have e : x / (-1) = -x := by
    rw [← Int32.toInt_inj, Int32.toInt_div]
    show (x.toInt.tdiv (-1)).bmod _ = _
    rw [Int.tdiv_neg, Int.tdiv_one]
    exact (Int32.toInt_neg x).symm
  rw [e, Int32.mul_neg, Int32.mul_one, Int32.neg_neg, Int32.sub_self]
theorem sub_m1 {g w : Nat} (hg : g ≤ 9) (hw : w ≤ 9) : nI g - nI w = -1 ↔ w = g + 1 := by
  rw [← Int32.toInt_inj, pk_sub_toInt (by omega) (by omega)]
  show (g : Int) - w = -1 ↔ _
  omega
theorem pmt_F {ν : Nat → va_E} {s m : Nat → Int32} {st : zAc} : pmt ν s m st 88 = .inr (12, [.ref 89, .ref 90, .ref 91, .int (sst s st 3), .ref 92, .int (sst s st 5), .int (sst s st 6), .int (sst s st 7), .int (sst s st 8), .int (sst s st 9), .int (sst s st 10), .int (sst s st 11), .int (sst s st 12), .ref 93, .int (sst s st 14), .ref 94, .ref 95, .int (sst s st 17), .int (sst s st 18), .int (sst s st 19), .int (sst s st 20), .ref 96, .ref 97, .int (sst s st 23), .ref 98, .ref 99, .ref 100, .ref 101, .ref 102, .ref 103, .ref 104, .ref 105, .int (sst s st 32), .int (sst s st 33)]) := pm_f
theorem pmt_t {ν : Nat → va_E} {s m : Nat → Int32} {st : zAc} : pmt ν s m st 105 = .inl (0, 30, .inl st.2.2) := by
  unfold pmt
  rw [pm_o (by decide), zu_s]
theorem pmt_o {ν : Nat → va_E} {s m : Nat → Int32} {st : zAc} {i : Nat} (h : (i < 88 ∨ 89 < i) ∧ i ≠ 105) : pmt ν s m st i = ν i := by
  unfold pmt
  rw [pm_o h.1, zu_n h.2]
set_option maxHeartbeats 4000000 in
set_option maxRecDepth 100000 in
theorem c_Mo_begins {G : zG} {n u : Nat} {ν : Nat → va_E} {s m : Nat → Int32} {st : zAc} (hp : st.2.1 = false) (hs : iA st) {body : Nat} : zMet G 0 M_Mo_begins [.ref 88, .int (nI body)] n u (pmt ν s m st) n u (zE none (pmt ν s m (bgS body st))) := by
  obtain ⟨b, p, tr⟩ := st
  have hb : b ≤ 30 := hs
  have hp : p = false := hp
  refine z_start (lv := [.ref 88, .int (nI body)]) K_Mo_begins rfl rfl (Nat.le_refl _) (Nat.le_refl _) (Nat.le_of_ble_eq_true rfl) rfl ?_
  refine z_al0 (pc' := 1) 0 rfl rfl ?_
  refine z_getf (pc' := 4) 1 rfl rfl f_Mo_323_12 (by first | exact pmt_F | (rw [pmt_o (by decide)]; assumption) | exact pmt_t) (by rfl) ?_
  refine z_te (show _ = nI b from rfl) ?_
  refine z_bipush (v := nI 30) (by decide) (pc' := 6) 2 rfl rfl ?_
  first | refine z_icmp_geN (pc' := 9) 3 rfl rfl (tgt := 29) rfl (by omega) (by omega) (fun h6 => ?_) (fun h6 => ?_) | refine z_icmp_ge (pc' := 9) 3 rfl rfl (tgt := 29) rfl (fun h6 => ?_) (fun h6 => ?_)
  · exact z_return 16 rfl rfl rfl rfl (by exact ⟨rfl, by rw [bgS, if_neg (fun z => by have := z.2; have : b < 30 := this; omega)]⟩)
  · refine z_al0 (pc' := 10) 4 rfl rfl ?_
    refine z_getf (pc' := 13) 5 rfl rfl f_Mo_60_12 (by first | exact pmt_F | (rw [pmt_o (by decide)]; assumption) | exact pmt_t) (by rfl) ?_
    refine z_al0 (pc' := 14) 6 rfl rfl ?_
    refine z_getf (pc' := 17) 7 rfl rfl f_Mo_323_12 (by first | exact pmt_F | (rw [pmt_o (by decide)]; assumption) | exact pmt_t) (by rfl) ?_
    refine z_te (show _ = nI b from rfl) ?_
    refine z_il1 (pc' := 18) 8 rfl rfl ?_
    refine z_iast (pc' := 19) 9 rfl rfl (by first | exact pmt_F | (rw [pmt_o (by decide)]; assumption) | exact pmt_t) (by omega) (by decide) ?_
    rw [pmt_105]
    refine z_al0 (pc' := 20) 10 rfl rfl ?_
    refine z_dup rfl (pc' := 21) 11 rfl rfl ?_
    refine z_getf (pc' := 24) 12 rfl rfl f_Mo_323_12 (by first | exact pmt_F | (rw [pmt_o (by decide)]; assumption) | exact pmt_t) (by rfl) ?_
    refine z_te (show _ = nI b from rfl) ?_
    refine z_iconst (v := nI 1) (by decide) (pc' := 25) 13 rfl rfl ?_
    first | refine z_iaddN (pc' := 26) 14 rfl rfl ?_ | refine z_iadd (pc' := 26) 14 rfl rfl ?_
    refine z_putf (pc' := 29) 15 rfl rfl f_Mo_323_12 (by first | exact pmt_F | (rw [pmt_o (by decide)]; assumption) | exact pmt_t) rfl rfl (by rfl) (by rfl) ?_
    dsimp only [List.set]
    rw [mob_32, pmt_32]
    exact z_return 16 rfl rfl rfl rfl (by exact ⟨rfl, by rw [bgS, if_pos ⟨hp, by show b < 30; omega⟩]⟩)
set_option maxHeartbeats 4000000 in
set_option maxRecDepth 100000 in
theorem c_Mo_plainSails {G : zG} {n u : Nat} {ν : Nat → va_E} {s : Nat → Int32} {S : Nat → Nat → Nat} {mo : Nat} {pr fa : Nat → Nat} {sc ch : Int32} {rc : Nat} {ρ : Nat → Int32} {st : zAc} (hi : iS S) (hp : st.2.1 = false) (hs : iA st) {g : Nat} (hg : g < 6) {x : Int32} : zMet G 1 M_Mo_plainSails [.ref 88, .int (nI g), .int x] n u (pmt ν s (mk S mo pr fa sc ch rc ρ) st) n u (zE (some (.int (saP g x st).1)) (pmt ν s (mk S mo pr fa sc ch rc ρ) (saP g x st).2)) := by
  have hk9 := (hi.2.2.2.2.2 g).1
  have hw9 := (hi.2.2.2.2.2 g).2.2.1
  refine z_start (lv := [.ref 88, .int (nI g), .int x]) K_Mo_plainSails rfl rfl (Nat.le_refl _) (Nat.le_refl _) (Nat.le_of_ble_eq_true rfl) rfl ?_
  refine z_al0 (pc' := 1) 0 rfl rfl ?_
  refine z_bipush (v := nI 10) (by decide) (pc' := 3) 1 rfl rfl ?_
  refine z_callV0 (pc' := 6) 2 rfl rfl k_Mo_326 (by first | exact pmt_F | (rw [pmt_o (by decide)]; assumption) | exact pmt_t) (c_Mo_begins hp hs) (by decide) (Nat.le_refl _) (Nat.le_refl _) rfl rfl (Nat.le_of_ble_eq_true rfl) ?_
  refine z_il2 (pc' := 7) 3 rfl rfl ?_
  refine z_iconst (v := nI 3) (by decide) (pc' := 8) 4 rfl rfl ?_
  refine z_imul (pc' := 9) 5 rfl rfl ?_
  refine z_il1 (pc' := 10) 6 rfl rfl ?_
  refine z_isub (pc' := 11) 7 rfl rfl ?_
  exact z_ireturn 8 rfl rfl (by first | rfl | exact zbo_nar) rfl rfl (by exact ⟨rfl, rfl⟩)
set_option maxHeartbeats 4000000 in
set_option maxRecDepth 100000 in
theorem c_Mo_sails {G : zG} {n u : Nat} {ν : Nat → va_E} {s : Nat → Int32} {S : Nat → Nat → Nat} {mo : Nat} {pr fa : Nat → Nat} {sc ch : Int32} {rc : Nat} {ρ : Nat → Int32} {st : zAc} (hi : iS S) (hp : st.2.1 = false) (hs : iA st) {g : Nat} (hg : g < 6) {x : Int32} : zMet G 2 M_Mo_sails [.ref 88, .int (nI g), .int x] n u (pmt ν s (mk S mo pr fa sc ch rc ρ) st) n u (zE (some (.int (saK (S 1 g) g x st).1)) (pmt ν s (mk S mo pr fa sc ch rc ρ) (saK (S 1 g) g x st).2)) := by
  have hk9 := (hi.2.2.2.2.2 g).1
  have hw9 := (hi.2.2.2.2.2 g).2.2.1
  refine z_start (lv := [.ref 88, .int (nI g), .int x]) K_Mo_sails rfl rfl (Nat.le_refl _) (Nat.le_refl _) (Nat.le_of_ble_eq_true rfl) rfl ?_
  refine z_al0 (pc' := 1) 0 rfl rfl ?_
  refine z_il1 (pc' := 2) 1 rfl rfl ?_
  refine z_iconst (v := nI 0) (by decide) (pc' := 3) 2 rfl rfl ?_
  refine z_callV1 (pc' := 6) 3 rfl rfl k_Mo_75 (by first | exact pmt_F | (rw [pmt_o (by decide)]; assumption) | exact pmt_t) (c_Mo_of0 hg) (by decide) (Nat.le_refl _) (Nat.le_refl _) rfl rfl (Nat.le_of_ble_eq_true rfl) ?_
  refine z_sw 1 (fun h6_1 => ?_) (fun h6_1 => ?_)
  · refine z_lookup 4 rfl (by decide) (off := 26) (by decide) (tgt := 32) rfl ?_
    refine z_al0 (pc' := 33) 5 rfl rfl ?_
    refine z_bipush (v := nI 20) (by decide) (pc' := 35) 6 rfl rfl ?_
    refine z_callV0 (pc' := 38) 7 rfl rfl k_Mo_326 (by first | exact pmt_F | (rw [pmt_o (by decide)]; assumption) | exact pmt_t) (c_Mo_begins hp hs) (by decide) (Nat.le_refl _) (Nat.le_refl _) rfl rfl (Nat.le_of_ble_eq_true rfl) ?_
    refine z_al0 (pc' := 39) 8 rfl rfl ?_
    refine z_il1 (pc' := 40) 9 rfl rfl ?_
    refine z_il2 (pc' := 41) 10 rfl rfl ?_
    refine z_callV1 (pc' := 44) 11 rfl rfl k_Mo_329 (by first | exact pmt_F | (rw [pmt_o (by decide)]; assumption) | exact pmt_t) (c_Mo_plainSails hi (pf_b.trans hp) (iA_b hs) hg) (by decide) (Nat.le_refl _) (Nat.le_refl _) rfl rfl (Nat.le_of_ble_eq_true rfl) ?_
    refine z_iconst (v := nI 2) (by decide) (pc' := 45) 12 rfl rfl ?_
    refine z_isub (pc' := 46) 13 rfl rfl ?_
    exact z_ireturn 14 rfl rfl (by first | rfl | exact zbo_nar) rfl rfl (by have k1 : S 1 g = 1 := (nI_eq (by omega) (by omega)).mp h6_1; exact ⟨by rw [saK, if_pos k1], by rw [saK, if_pos k1]⟩)
  refine z_sw 3 (fun h6_3 => ?_) (fun h6_3 => ?_)
  · refine z_lookup 4 rfl (by decide) (off := 41) (by decide) (tgt := 47) rfl ?_
    refine z_al0 (pc' := 48) 15 rfl rfl ?_
    refine z_bipush (v := nI 50) (by decide) (pc' := 50) 16 rfl rfl ?_
    refine z_callV0 (pc' := 53) 17 rfl rfl k_Mo_326 (by first | exact pmt_F | (rw [pmt_o (by decide)]; assumption) | exact pmt_t) (c_Mo_begins hp hs) (by decide) (Nat.le_refl _) (Nat.le_refl _) rfl rfl (Nat.le_of_ble_eq_true rfl) ?_
    refine z_al0 (pc' := 54) 18 rfl rfl ?_
    refine z_il1 (pc' := 55) 19 rfl rfl ?_
    refine z_il2 (pc' := 56) 20 rfl rfl ?_
    refine z_iconst (v := nI 1) (by decide) (pc' := 57) 21 rfl rfl ?_
    refine z_iadd (pc' := 58) 22 rfl rfl ?_
    refine z_callV1 (pc' := 61) 23 rfl rfl k_Mo_329 (by first | exact pmt_F | (rw [pmt_o (by decide)]; assumption) | exact pmt_t) (c_Mo_plainSails hi (pf_b.trans hp) (iA_b hs) hg) (by decide) (Nat.le_refl _) (Nat.le_refl _) rfl rfl (Nat.le_of_ble_eq_true rfl) ?_
    exact z_ireturn 24 rfl rfl (by first | rfl | exact zbo_nar) rfl rfl (by have k1 : S 1 g = 3 := (nI_eq (by omega) (by omega)).mp h6_3; exact ⟨by rw [saK, if_neg (by omega), if_pos k1], by rw [saK, if_neg (by omega), if_pos k1]⟩)
  refine z_lookup 4 rfl (by decide) (off := 56) (by have e0 := z_ne (by decide) h6_1; have e1 := z_ne (by decide) h6_3; simp [Op.lookupswitch.offset, e0, e1]; try omega) (tgt := 62) rfl ?_
  refine z_al0 (pc' := 63) 25 rfl rfl ?_
  refine z_il1 (pc' := 64) 26 rfl rfl ?_
  refine z_il2 (pc' := 65) 27 rfl rfl ?_
  refine z_callV1 (pc' := 68) 28 rfl rfl k_Mo_329 (by first | exact pmt_F | (rw [pmt_o (by decide)]; assumption) | exact pmt_t) (c_Mo_plainSails hi hp hs hg) (by decide) (Nat.le_refl _) (Nat.le_refl _) rfl rfl (Nat.le_of_ble_eq_true rfl) ?_
  exact z_ireturn 29 rfl rfl (by first | rfl | exact zbo_nar) rfl rfl (by have k1 : S 1 g ≠ 1 := (fun z => h6_1 (by rw [z])); have k3 : S 1 g ≠ 3 := (fun z => h6_3 (by rw [z])); exact ⟨by rw [saK, if_neg k1, if_neg k3], by rw [saK, if_neg k1, if_neg k3]⟩)
set_option maxHeartbeats 4000000 in
set_option maxRecDepth 100000 in
theorem c_Mo_plainCalls {G : zG} {n u : Nat} {ν : Nat → va_E} {s : Nat → Int32} {S : Nat → Nat → Nat} {mo : Nat} {pr fa : Nat → Nat} {sc ch : Int32} {rc : Nat} {ρ : Nat → Int32} {st : zAc} (hi : iS S) (hp : st.2.1 = false) (hs : iA st) {g : Nat} (hg : g < 6) {x : Int32} : zMet G 3 M_Mo_plainCalls [.ref 88, .int (nI g), .int x] n u (pmt ν s (mk S mo pr fa sc ch rc ρ) st) n u (zE (some (.int (caP (S 1 g) g (S 3 g) x st).1)) (pmt ν s (mk S mo pr fa sc ch rc ρ) (caP (S 1 g) g (S 3 g) x st).2)) := by
  have hk9 := (hi.2.2.2.2.2 g).1
  have hw9 := (hi.2.2.2.2.2 g).2.2.1
  refine z_start (lv := [.ref 88, .int (nI g), .int x]) K_Mo_plainCalls rfl rfl (Nat.le_refl _) (Nat.le_refl _) (Nat.le_of_ble_eq_true rfl) rfl ?_
  refine z_al0 (pc' := 1) 0 rfl rfl ?_
  refine z_bipush (v := nI 11) (by decide) (pc' := 3) 1 rfl rfl ?_
  refine z_callV0 (pc' := 6) 2 rfl rfl k_Mo_326 (by first | exact pmt_F | (rw [pmt_o (by decide)]; assumption) | exact pmt_t) (c_Mo_begins hp hs) (by decide) (Nat.le_refl _) (Nat.le_refl _) rfl rfl (Nat.le_of_ble_eq_true rfl) ?_
  refine z_al0 (pc' := 7) 3 rfl rfl ?_
  refine z_il1 (pc' := 8) 4 rfl rfl ?_
  refine z_il2 (pc' := 9) 5 rfl rfl ?_
  refine z_callV1 (pc' := 12) 6 rfl rfl k_Mo_332 (by first | exact pmt_F | (rw [pmt_o (by decide)]; assumption) | exact pmt_t) (c_Mo_sails hi (pf_b.trans hp) (iA_b hs) hg) (by decide) (Nat.le_refl _) (Nat.le_refl _) rfl rfl (Nat.le_of_ble_eq_true rfl) ?_
  refine z_al0 (pc' := 13) 7 rfl rfl ?_
  refine z_il1 (pc' := 14) 8 rfl rfl ?_
  refine z_iconst (v := nI 2) (by decide) (pc' := 15) 9 rfl rfl ?_
  refine z_callV1 (pc' := 18) 10 rfl rfl k_Mo_75 (by first | exact pmt_F | (rw [pmt_o (by decide)]; assumption) | exact pmt_t) (c_Mo_of2 hg) (by decide) (Nat.le_refl _) (Nat.le_refl _) rfl rfl (Nat.le_of_ble_eq_true rfl) ?_
  refine z_iadd (pc' := 19) 11 rfl rfl ?_
  exact z_ireturn 12 rfl rfl (by first | rfl | exact zbo_nar) rfl rfl (by exact ⟨rfl, rfl⟩)
set_option maxHeartbeats 4000000 in
set_option maxRecDepth 100000 in
theorem c_Mo_calls {G : zG} {n u : Nat} {ν : Nat → va_E} {s : Nat → Int32} {S : Nat → Nat → Nat} {mo : Nat} {pr fa : Nat → Nat} {sc ch : Int32} {rc : Nat} {ρ : Nat → Int32} {st : zAc} (hi : iS S) (hp : st.2.1 = false) (hs : iA st) {g : Nat} (hg : g < 6) {x : Int32} : zMet G 4 M_Mo_calls [.ref 88, .int (nI g), .int x] n u (pmt ν s (mk S mo pr fa sc ch rc ρ) st) n u (zE (some (.int (caK (S 1 g) g (S 3 g) x st).1)) (pmt ν s (mk S mo pr fa sc ch rc ρ) (caK (S 1 g) g (S 3 g) x st).2)) := by
  have hk9 := (hi.2.2.2.2.2 g).1
  have hw9 := (hi.2.2.2.2.2 g).2.2.1
  refine z_start (lv := [.ref 88, .int (nI g), .int x]) K_Mo_calls rfl rfl (Nat.le_refl _) (Nat.le_refl _) (Nat.le_of_ble_eq_true rfl) rfl ?_
  refine z_al0 (pc' := 1) 0 rfl rfl ?_
  refine z_il1 (pc' := 2) 1 rfl rfl ?_
  refine z_iconst (v := nI 0) (by decide) (pc' := 3) 2 rfl rfl ?_
  refine z_callV1 (pc' := 6) 3 rfl rfl k_Mo_75 (by first | exact pmt_F | (rw [pmt_o (by decide)]; assumption) | exact pmt_t) (c_Mo_of0 hg) (by decide) (Nat.le_refl _) (Nat.le_refl _) rfl rfl (Nat.le_of_ble_eq_true rfl) ?_
  first | refine z_swN (by omega) 2 (by decide) (fun h6_2 => ?_) (fun h6_2 => ?_) | refine z_sw 2 (fun h6_2 => ?_) (fun h6_2 => ?_)
  · refine z_tableIn 4 rfl (by decide) (by decide) (off := 30) rfl (tgt := 36) rfl ?_
    refine z_al0 (pc' := 37) 5 rfl rfl ?_
    refine z_bipush (v := nI 30) (by decide) (pc' := 39) 6 rfl rfl ?_
    refine z_callV0 (pc' := 42) 7 rfl rfl k_Mo_326 (by first | exact pmt_F | (rw [pmt_o (by decide)]; assumption) | exact pmt_t) (c_Mo_begins hp hs) (by decide) (Nat.le_refl _) (Nat.le_refl _) rfl rfl (Nat.le_of_ble_eq_true rfl) ?_
    refine z_al0 (pc' := 43) 8 rfl rfl ?_
    refine z_il1 (pc' := 44) 9 rfl rfl ?_
    refine z_il2 (pc' := 45) 10 rfl rfl ?_
    refine z_callV1 (pc' := 48) 11 rfl rfl k_Mo_335 (by first | exact pmt_F | (rw [pmt_o (by decide)]; assumption) | exact pmt_t) (c_Mo_plainCalls hi (pf_b.trans hp) (iA_b hs) hg) (by decide) (Nat.le_refl _) (Nat.le_refl _) rfl rfl (Nat.le_of_ble_eq_true rfl) ?_
    refine z_il1 (pc' := 49) 12 rfl rfl ?_
    refine z_ixor (pc' := 50) 13 rfl rfl ?_
    exact z_ireturn 14 rfl rfl (by first | rfl | exact zbo_nar) rfl rfl (by have k1 : S 1 g = 2 ∨ S 1 g = 3 := (by omega); exact ⟨by rw [caK, if_pos k1], by rw [caK, if_pos k1]⟩)
  first | refine z_swN (by omega) 3 (by decide) (fun h6_3 => ?_) (fun h6_3 => ?_) | refine z_sw 3 (fun h6_3 => ?_) (fun h6_3 => ?_)
  · refine z_tableIn 4 rfl (by decide) (by decide) (off := 30) rfl (tgt := 36) rfl ?_
    refine z_al0 (pc' := 37) 5 rfl rfl ?_
    refine z_bipush (v := nI 30) (by decide) (pc' := 39) 6 rfl rfl ?_
    refine z_callV0 (pc' := 42) 7 rfl rfl k_Mo_326 (by first | exact pmt_F | (rw [pmt_o (by decide)]; assumption) | exact pmt_t) (c_Mo_begins hp hs) (by decide) (Nat.le_refl _) (Nat.le_refl _) rfl rfl (Nat.le_of_ble_eq_true rfl) ?_
    refine z_al0 (pc' := 43) 8 rfl rfl ?_
    refine z_il1 (pc' := 44) 9 rfl rfl ?_
    refine z_il2 (pc' := 45) 10 rfl rfl ?_
    refine z_callV1 (pc' := 48) 11 rfl rfl k_Mo_335 (by first | exact pmt_F | (rw [pmt_o (by decide)]; assumption) | exact pmt_t) (c_Mo_plainCalls hi (pf_b.trans hp) (iA_b hs) hg) (by decide) (Nat.le_refl _) (Nat.le_refl _) rfl rfl (Nat.le_of_ble_eq_true rfl) ?_
    refine z_il1 (pc' := 49) 12 rfl rfl ?_
    refine z_ixor (pc' := 50) 13 rfl rfl ?_
    exact z_ireturn 14 rfl rfl (by first | rfl | exact zbo_nar) rfl rfl (by have k1 : S 1 g = 2 ∨ S 1 g = 3 := (by omega); exact ⟨by rw [caK, if_pos k1], by rw [caK, if_pos k1]⟩)
  first | refine z_swN (by omega) 4 (by decide) (fun h6_4 => ?_) (fun h6_4 => ?_) | refine z_sw 4 (fun h6_4 => ?_) (fun h6_4 => ?_)
  · refine z_tableIn 4 rfl (by decide) (by decide) (off := 60) rfl (tgt := 66) rfl ?_
    refine z_al0 (pc' := 67) 25 rfl rfl ?_
    refine z_il1 (pc' := 68) 26 rfl rfl ?_
    refine z_il2 (pc' := 69) 27 rfl rfl ?_
    refine z_callV1 (pc' := 72) 28 rfl rfl k_Mo_335 (by first | exact pmt_F | (rw [pmt_o (by decide)]; assumption) | exact pmt_t) (c_Mo_plainCalls hi hp hs hg) (by decide) (Nat.le_refl _) (Nat.le_refl _) rfl rfl (Nat.le_of_ble_eq_true rfl) ?_
    exact z_ireturn 29 rfl rfl (by first | rfl | exact zbo_nar) rfl rfl (by have k1 : ¬ (S 1 g = 2 ∨ S 1 g = 3) := (by omega); exact ⟨by rw [caK, if_neg k1, if_neg (by omega)], by rw [caK, if_neg k1, if_neg (by omega)]⟩)
  first | refine z_swN (by omega) 5 (by decide) (fun h6_5 => ?_) (fun h6_5 => ?_) | refine z_sw 5 (fun h6_5 => ?_) (fun h6_5 => ?_)
  · refine z_tableIn 4 rfl (by decide) (by decide) (off := 45) rfl (tgt := 51) rfl ?_
    refine z_al0 (pc' := 52) 15 rfl rfl ?_
    refine z_bipush (v := nI 60) (by decide) (pc' := 54) 16 rfl rfl ?_
    refine z_callV0 (pc' := 57) 17 rfl rfl k_Mo_326 (by first | exact pmt_F | (rw [pmt_o (by decide)]; assumption) | exact pmt_t) (c_Mo_begins hp hs) (by decide) (Nat.le_refl _) (Nat.le_refl _) rfl rfl (Nat.le_of_ble_eq_true rfl) ?_
    refine z_iconst (v := nI 1) (by decide) (pc' := 58) 18 rfl rfl ?_
    refine z_al0 (pc' := 59) 19 rfl rfl ?_
    refine z_il1 (pc' := 60) 20 rfl rfl ?_
    refine z_il2 (pc' := 61) 21 rfl rfl ?_
    refine z_callV1 (pc' := 64) 22 rfl rfl k_Mo_335 (by first | exact pmt_F | (rw [pmt_o (by decide)]; assumption) | exact pmt_t) (c_Mo_plainCalls hi (pf_b.trans hp) (iA_b hs) hg) (by decide) (Nat.le_refl _) (Nat.le_refl _) rfl rfl (Nat.le_of_ble_eq_true rfl) ?_
    refine z_isub (pc' := 65) 23 rfl rfl ?_
    exact z_ireturn 24 rfl rfl (by first | rfl | exact zbo_nar) rfl rfl (by have k1 : ¬ (S 1 g = 2 ∨ S 1 g = 3) := (by omega); exact ⟨by rw [caK, if_neg k1, if_pos h6_5], by rw [caK, if_neg k1, if_pos h6_5]⟩)
  refine z_tableOut 4 rfl (by first | (rw [nI_toInt (by omega)]; omega) | (have e2 := z_ne (by decide) h6_2; have e3 := z_ne (by decide) h6_3; have e4 := z_ne (by decide) h6_4; have e5 := z_ne (by decide) h6_5; omega)) (tgt := 66) rfl ?_
  refine z_al0 (pc' := 67) 25 rfl rfl ?_
  refine z_il1 (pc' := 68) 26 rfl rfl ?_
  refine z_il2 (pc' := 69) 27 rfl rfl ?_
  refine z_callV1 (pc' := 72) 28 rfl rfl k_Mo_335 (by first | exact pmt_F | (rw [pmt_o (by decide)]; assumption) | exact pmt_t) (c_Mo_plainCalls hi hp hs hg) (by decide) (Nat.le_refl _) (Nat.le_refl _) rfl rfl (Nat.le_of_ble_eq_true rfl) ?_
  exact z_ireturn 29 rfl rfl (by first | rfl | exact zbo_nar) rfl rfl (by have k1 : ¬ (S 1 g = 2 ∨ S 1 g = 3) := (by omega); exact ⟨by rw [caK, if_neg k1, if_neg (by omega)], by rw [caK, if_neg k1, if_neg (by omega)]⟩)
set_option maxHeartbeats 4000000 in
set_option maxRecDepth 100000 in
theorem c_Mo_plainShares {G : zG} {n u : Nat} {ν : Nat → va_E} {s : Nat → Int32} {S : Nat → Nat → Nat} {mo : Nat} {pr fa : Nat → Nat} {sc ch : Int32} {rc : Nat} {ρ : Nat → Int32} {st : zAc} (hi : iS S) (hp : st.2.1 = false) (hs : iA st) {g : Nat} (hg : g < 6) {x : Int32} : zMet G 1 M_Mo_plainShares [.ref 88, .int (nI g), .int x] n u (pmt ν s (mk S mo pr fa sc ch rc ρ) st) n u (zE (some (.int (shP g (S 3 g) x st).1)) (pmt ν s (mk S mo pr fa sc ch rc ρ) (shP g (S 3 g) x st).2)) := by
  have hk9 := (hi.2.2.2.2.2 g).1
  have hw9 := (hi.2.2.2.2.2 g).2.2.1
  refine z_start (lv := [.ref 88, .int (nI g), .int x, .retAddr 0]) K_Mo_plainShares rfl rfl (Nat.le_refl _) (Nat.le_refl _) (Nat.le_of_ble_eq_true rfl) rfl ?_
  refine z_al0 (pc' := 1) 0 rfl rfl ?_
  refine z_bipush (v := nI 12) (by decide) (pc' := 3) 1 rfl rfl ?_
  refine z_callV0 (pc' := 6) 2 rfl rfl k_Mo_326 (by first | exact pmt_F | (rw [pmt_o (by decide)]; assumption) | exact pmt_t) (c_Mo_begins hp hs) (by decide) (Nat.le_refl _) (Nat.le_refl _) rfl rfl (Nat.le_of_ble_eq_true rfl) ?_
  refine z_il1 (pc' := 7) 3 rfl rfl ?_
  refine z_al0 (pc' := 8) 4 rfl rfl ?_
  refine z_il1 (pc' := 9) 5 rfl rfl ?_
  refine z_iconst (v := nI 2) (by decide) (pc' := 10) 6 rfl rfl ?_
  refine z_callV1 (pc' := 13) 7 rfl rfl k_Mo_75 (by first | exact pmt_F | (rw [pmt_o (by decide)]; assumption) | exact pmt_t) (c_Mo_of2 hg) (by decide) (Nat.le_refl _) (Nat.le_refl _) rfl rfl (Nat.le_of_ble_eq_true rfl) ?_
  refine z_isub (pc' := 14) 8 rfl rfl ?_
  refine z_is3 rfl rfl (pc' := 15) 9 rfl rfl ?_
  refine z_al0 (pc' := 16) 10 rfl rfl ?_
  refine z_il3 (pc' := 17) 11 rfl rfl ?_
  first | refine z_if_ne (pc' := 20) 12 rfl rfl (tgt := 24) rfl (fun h17 => ?_) (fun h17 => ?_)
  · refine z_iconst (v := nI 0) (by decide) (pc' := 25) 15 rfl rfl ?_
    refine z_putf (pc' := 28) 16 rfl rfl f_Mo_338_12 (by first | exact pmt_F | (rw [pmt_o (by decide)]; assumption) | exact pmt_t) rfl rfl (by rfl) (by rfl) ?_
    dsimp only [List.set]
    rw [mob_33, show nI 0 = bI false from rfl]
    refine z_mu (pmt_33 (st := bgS 12 st) (q := false)) ?_
    refine z_al0 (pc' := 29) 17 rfl rfl ?_
    refine z_getf (pc' := 32) 18 rfl rfl f_Mo_338_12 (by first | exact pmt_F | (rw [pmt_o (by decide)]; assumption) | exact pmt_t) (by rfl) ?_
    refine z_te (show _ = nI 0 from rfl) ?_
    refine z_if_ne_f (pc' := 35) 19 rfl rfl (tgt := 40) rfl (show nI 0 = 0 from rfl) ?_
    refine z_il3 (pc' := 36) 20 rfl rfl ?_
    refine z_iconst (v := (-1)) (by decide) (pc' := 37) 21 rfl rfl ?_
    first | refine z_icmp_ne (pc' := 40) 22 rfl rfl (tgt := 44) rfl (fun h37 => ?_) (fun h37 => ?_)
    · refine z_il2 (pc' := 45) 25 rfl rfl ?_
      refine z_il3 (pc' := 46) 26 rfl rfl ?_
      refine z_irem (by exact h17) (pc' := 47) 27 rfl rfl ?_
      exact z_ireturn 28 rfl rfl (by first | rfl | exact zbo_nar) rfl rfl (by have k1 : ¬ g = S 3 g := (fun z => h17 ((sub_z (by omega) (by omega)).mpr z)); have k2 : ((bgS 12 st).1, false, (bgS 12 st).2.2) = bgS 12 st := (by have h9 := (pf_b (body := 12) (st := st)).trans hp; rw [← h9]); exact ⟨by rw [shP, if_neg k1], by rw [shP, if_neg k1, k2]⟩)
    · refine z_iconst (v := nI 0) (by decide) (pc' := 41) 23 rfl rfl ?_
      refine z_goto 24 rfl (tgt := 47) rfl ?_
      exact z_ireturn 28 rfl rfl (by first | rfl | exact zbo_nar) rfl rfl (by have k1 : ¬ g = S 3 g := (fun z => h17 ((sub_z (by omega) (by omega)).mpr z)); have k2 : ((bgS 12 st).1, false, (bgS 12 st).2.2) = bgS 12 st := (by have h9 := (pf_b (body := 12) (st := st)).trans hp; rw [← h9]); exact ⟨by rw [shP, if_neg k1, h37, rem_m1]; rfl, by rw [shP, if_neg k1, k2]⟩)
  · refine z_iconst (v := nI 1) (by decide) (pc' := 21) 13 rfl rfl ?_
    refine z_goto 14 rfl (tgt := 25) rfl ?_
    refine z_putf (pc' := 28) 16 rfl rfl f_Mo_338_12 (by first | exact pmt_F | (rw [pmt_o (by decide)]; assumption) | exact pmt_t) rfl rfl (by rfl) (by rfl) ?_
    dsimp only [List.set]
    rw [mob_33, show nI 1 = bI true from rfl]
    refine z_mu (pmt_33 (st := bgS 12 st) (q := true)) ?_
    refine z_al0 (pc' := 29) 17 rfl rfl ?_
    refine z_getf (pc' := 32) 18 rfl rfl f_Mo_338_12 (by first | exact pmt_F | (rw [pmt_o (by decide)]; assumption) | exact pmt_t) (by rfl) ?_
    refine z_te (show _ = nI 1 from rfl) ?_
    refine z_if_ne_t 19 rfl (tgt := 40) rfl (by decide) ?_
    refine z_iconst (v := nI 0) (by decide) (pc' := 41) 23 rfl rfl ?_
    refine z_goto 24 rfl (tgt := 47) rfl ?_
    exact z_ireturn 28 rfl rfl (by first | rfl | exact zbo_nar) rfl rfl (by have k1 : g = S 3 g := (sub_z (by omega) (by omega)).mp h17; exact ⟨by rw [shP, if_pos k1], by rw [shP, if_pos k1]⟩)
set_option maxHeartbeats 4000000 in
set_option maxRecDepth 100000 in
theorem c_Mo_lateShares {G : zG} {n u : Nat} {ν : Nat → va_E} {s : Nat → Int32} {S : Nat → Nat → Nat} {mo : Nat} {pr fa : Nat → Nat} {sc ch : Int32} {rc : Nat} {ρ : Nat → Int32} {st : zAc} (hi : iS S) (hp : st.2.1 = false) (hs : iA st) {g : Nat} (hg : g < 6) {x : Int32} : zMet G 2 M_Mo_lateShares [.ref 88, .int (nI g), .int x] n u (pmt ν s (mk S mo pr fa sc ch rc ρ) st) n u (zE (some (.int (shL g (S 3 g) x st).1)) (pmt ν s (mk S mo pr fa sc ch rc ρ) (shL g (S 3 g) x st).2)) := by
  have hk9 := (hi.2.2.2.2.2 g).1
  have hw9 := (hi.2.2.2.2.2 g).2.2.1
  refine z_start (lv := [.ref 88, .int (nI g), .int x]) K_Mo_lateShares rfl rfl (Nat.le_refl _) (Nat.le_refl _) (Nat.le_of_ble_eq_true rfl) rfl ?_
  refine z_al0 (pc' := 1) 0 rfl rfl ?_
  refine z_bipush (v := nI 40) (by decide) (pc' := 3) 1 rfl rfl ?_
  refine z_callV0 (pc' := 6) 2 rfl rfl k_Mo_326 (by first | exact pmt_F | (rw [pmt_o (by decide)]; assumption) | exact pmt_t) (c_Mo_begins hp hs) (by decide) (Nat.le_refl _) (Nat.le_refl _) rfl rfl (Nat.le_of_ble_eq_true rfl) ?_
  refine z_al0 (pc' := 7) 3 rfl rfl ?_
  refine z_il1 (pc' := 8) 4 rfl rfl ?_
  refine z_il2 (pc' := 9) 5 rfl rfl ?_
  refine z_callV1 (pc' := 12) 6 rfl rfl k_Mo_341 (by first | exact pmt_F | (rw [pmt_o (by decide)]; assumption) | exact pmt_t) (c_Mo_plainShares hi (pf_b.trans hp) (iA_b hs) hg) (by decide) (Nat.le_refl _) (Nat.le_refl _) rfl rfl (Nat.le_of_ble_eq_true rfl) ?_
  refine z_iconst (v := nI 2) (by decide) (pc' := 13) 7 rfl rfl ?_
  refine z_imul (pc' := 14) 8 rfl rfl ?_
  exact z_ireturn 9 rfl rfl (by first | rfl | exact zbo_nar) rfl rfl (by exact ⟨rfl, rfl⟩)
set_option maxHeartbeats 4000000 in
set_option maxRecDepth 100000 in
theorem c_Mo_shares {G : zG} {n u : Nat} {ν : Nat → va_E} {s : Nat → Int32} {S : Nat → Nat → Nat} {mo : Nat} {pr fa : Nat → Nat} {sc ch : Int32} {rc : Nat} {ρ : Nat → Int32} {st : zAc} (hi : iS S) (hp : st.2.1 = false) (hs : iA st) {g : Nat} (hg : g < 6) {x : Int32} : zMet G 3 M_Mo_shares [.ref 88, .int (nI g), .int x] n u (pmt ν s (mk S mo pr fa sc ch rc ρ) st) n u (fun r μ' => (∃ v : Int32, r = some (.int v) ∧ ((shK (S 1 g) g (S 3 g) x st).2.2.1 = false → v = (shK (S 1 g) g (S 3 g) x st).1)) ∧ μ' = pmt ν s (mk S mo pr fa sc ch rc ρ) (shK (S 1 g) g (S 3 g) x st).2) := by
  have hk9 := (hi.2.2.2.2.2 g).1
  have hw9 := (hi.2.2.2.2.2 g).2.2.1
  refine z_start (lv := [.ref 88, .int (nI g), .int x, .retAddr 0]) K_Mo_shares rfl rfl (Nat.le_refl _) (Nat.le_refl _) (Nat.le_of_ble_eq_true rfl) rfl ?_
  refine z_al0 (pc' := 1) 0 rfl rfl ?_
  refine z_il1 (pc' := 2) 1 rfl rfl ?_
  refine z_iconst (v := nI 0) (by decide) (pc' := 3) 2 rfl rfl ?_
  refine z_callV1 (pc' := 6) 3 rfl rfl k_Mo_75 (by first | exact pmt_F | (rw [pmt_o (by decide)]; assumption) | exact pmt_t) (c_Mo_of0 hg) (by decide) (Nat.le_refl _) (Nat.le_refl _) rfl rfl (Nat.le_of_ble_eq_true rfl) ?_
  refine z_sw 4 (fun h6_4 => ?_) (fun h6_4 => ?_)
  · refine z_lookup 4 rfl (by decide) (off := 26) (by decide) (tgt := 32) rfl ?_
    refine z_al0 (pc' := 33) 5 rfl rfl ?_
    refine z_il1 (pc' := 34) 6 rfl rfl ?_
    refine z_il2 (pc' := 35) 7 rfl rfl ?_
    refine z_callV1 (pc' := 38) 8 rfl rfl k_Mo_344 (by first | exact pmt_F | (rw [pmt_o (by decide)]; assumption) | exact pmt_t) (c_Mo_lateShares hi hp hs hg) (by decide) (Nat.le_refl _) (Nat.le_refl _) rfl rfl (Nat.le_of_ble_eq_true rfl) ?_
    exact z_ireturn 9 rfl rfl (by first | rfl | exact zbo_nar) rfl rfl (by have k1 : S 1 g = 4 := (nI_eq (by omega) (by omega)).mp h6_4; rw [shK, if_pos k1]; exact ⟨⟨_, rfl, fun _ => rfl⟩, rfl⟩)
  refine z_sw 5 (fun h6_5 => ?_) (fun h6_5 => ?_)
  · refine z_lookup 4 rfl (by decide) (off := 33) (by decide) (tgt := 39) rfl ?_
    refine z_al0 (pc' := 40) 10 rfl rfl ?_
    refine z_bipush (v := nI 61) (by decide) (pc' := 42) 11 rfl rfl ?_
    refine z_callV0 (pc' := 45) 12 rfl rfl k_Mo_326 (by first | exact pmt_F | (rw [pmt_o (by decide)]; assumption) | exact pmt_t) (c_Mo_begins hp hs) (by decide) (Nat.le_refl _) (Nat.le_refl _) rfl rfl (Nat.le_of_ble_eq_true rfl) ?_
    refine z_al0 (pc' := 46) 13 rfl rfl ?_
    refine z_il1 (pc' := 47) 14 rfl rfl ?_
    refine z_il2 (pc' := 48) 15 rfl rfl ?_
    refine z_callV1 (pc' := 51) 16 rfl rfl k_Mo_344 (by first | exact pmt_F | (rw [pmt_o (by decide)]; assumption) | exact pmt_t) (c_Mo_lateShares hi (pf_b.trans hp) (iA_b hs) hg) (by decide) (Nat.le_refl _) (Nat.le_refl _) rfl rfl (Nat.le_of_ble_eq_true rfl) ?_
    refine z_is3 rfl rfl (pc' := 52) 17 rfl rfl ?_
    refine z_al0 (pc' := 53) 18 rfl rfl ?_
    refine z_getf (pc' := 56) 19 rfl rfl f_Mo_338_12 (by first | exact pmt_F | (rw [pmt_o (by decide)]; assumption) | exact pmt_t) (by rfl) ?_
    refine z_te (show _ = bI (shL g (S 3 g) x (bgS 61 st)).2.2.1 from rfl) ?_
    first | refine z_if_eqB (pc' := 59) 20 rfl rfl (tgt := 63) rfl (fun h56 => ?_) (fun h56 => ?_) | refine z_if_eqN (pc' := 59) 20 rfl rfl (tgt := 63) rfl (by omega) (fun h56 => ?_) (fun h56 => ?_) | refine z_if_eq (pc' := 59) 20 rfl rfl (tgt := 63) rfl (fun h56 => ?_) (fun h56 => ?_)
    · refine z_il3 (pc' := 64) 23 rfl rfl ?_
      refine z_al0 (pc' := 65) 24 rfl rfl ?_
      refine z_il1 (pc' := 66) 25 rfl rfl ?_
      refine z_il1 (pc' := 67) 26 rfl rfl ?_
      refine z_callV1 (pc' := 70) 27 rfl rfl k_Mo_332 (by first | exact pmt_F | (rw [pmt_o (by decide)]; assumption) | exact pmt_t) (c_Mo_sails hi (eq_false_of_ne_true h56) (iA_sp (iA_b (iA_b hs))) hg) (by decide) (Nat.le_refl _) (Nat.le_refl _) rfl rfl (Nat.le_of_ble_eq_true rfl) ?_
      refine z_ixor (pc' := 71) 28 rfl rfl ?_
      exact z_ireturn 29 rfl rfl (by first | rfl | exact zbo_nar) rfl rfl (by have k1 : S 1 g = 5 := (nI_eq (by omega) (by omega)).mp h6_5; rw [shK, if_neg (by omega), if_pos k1]; exact ⟨⟨_, rfl, fun _ => rfl⟩, rfl⟩)
    · refine z_iconst (v := nI 0) (by decide) (pc' := 60) 21 rfl rfl ?_
      refine z_goto 22 rfl (tgt := 71) rfl ?_
      exact z_ireturn 29 rfl rfl (by first | rfl | exact zbo_nar) rfl rfl (by have k1 : S 1 g = 5 := (nI_eq (by omega) (by omega)).mp h6_5; rw [shK, if_neg (by omega), if_pos k1]; refine ⟨⟨_, rfl, fun z => ?_⟩, ?_⟩; have z : (saK (S 1 g) g (nI g) (shL g (S 3 g) x (bgS 61 st)).2).2.2.1 = false := z; rw [pf_sa, h56] at z; cases z; show _ = pmt ν s _ (saK (S 1 g) g (nI g) (shL g (S 3 g) x (bgS 61 st)).2).2; rw [pt_sa h56])
  refine z_lookup 4 rfl (by decide) (off := 66) (by have e0 := z_ne (by decide) h6_4; have e1 := z_ne (by decide) h6_5; simp [Op.lookupswitch.offset, e0, e1]; try omega) (tgt := 72) rfl ?_
  refine z_al0 (pc' := 73) 30 rfl rfl ?_
  refine z_il1 (pc' := 74) 31 rfl rfl ?_
  refine z_il2 (pc' := 75) 32 rfl rfl ?_
  refine z_callV1 (pc' := 78) 33 rfl rfl k_Mo_341 (by first | exact pmt_F | (rw [pmt_o (by decide)]; assumption) | exact pmt_t) (c_Mo_plainShares hi hp hs hg) (by decide) (Nat.le_refl _) (Nat.le_refl _) rfl rfl (Nat.le_of_ble_eq_true rfl) ?_
  exact z_ireturn 34 rfl rfl (by first | rfl | exact zbo_nar) rfl rfl (by rw [shK, if_neg (show S 1 g ≠ 4 from fun z => h6_4 (by rw [z])), if_neg (show S 1 g ≠ 5 from fun z => h6_5 (by rw [z]))]; exact ⟨⟨_, rfl, fun _ => rfl⟩, rfl⟩)
set_option maxHeartbeats 4000000 in
set_option maxRecDepth 100000 in
theorem c_Mo_plainWeds {G : zG} {n u : Nat} {ν : Nat → va_E} {s : Nat → Int32} {S : Nat → Nat → Nat} {mo : Nat} {pr fa : Nat → Nat} {sc ch : Int32} {rc : Nat} {ρ : Nat → Int32} {st : zAc} (hi : iS S) (hp : st.2.1 = false) (hs : iA st) {g : Nat} (hg : g < 6) {x : Int32} : zMet G 5 M_Mo_plainWeds [.ref 88, .int (nI g), .int x] n u (pmt ν s (mk S mo pr fa sc ch rc ρ) st) n u (fun r μ' => (∃ v : Int32, r = some (.int v) ∧ ((weP (S 1 g) g (S 3 g) x st).2.2.1 = false → v = (weP (S 1 g) g (S 3 g) x st).1)) ∧ μ' = pmt ν s (mk S mo pr fa sc ch rc ρ) (weP (S 1 g) g (S 3 g) x st).2) := by
  have hk9 := (hi.2.2.2.2.2 g).1
  have hw9 := (hi.2.2.2.2.2 g).2.2.1
  refine z_start (lv := [.ref 88, .int (nI g), .int x, .retAddr 0]) K_Mo_plainWeds rfl rfl (Nat.le_refl _) (Nat.le_refl _) (Nat.le_of_ble_eq_true rfl) rfl ?_
  refine z_al0 (pc' := 1) 0 rfl rfl ?_
  refine z_bipush (v := nI 13) (by decide) (pc' := 3) 1 rfl rfl ?_
  refine z_callV0 (pc' := 6) 2 rfl rfl k_Mo_326 (by first | exact pmt_F | (rw [pmt_o (by decide)]; assumption) | exact pmt_t) (c_Mo_begins hp hs) (by decide) (Nat.le_refl _) (Nat.le_refl _) rfl rfl (Nat.le_of_ble_eq_true rfl) ?_
  refine z_al0 (pc' := 7) 3 rfl rfl ?_
  refine z_il1 (pc' := 8) 4 rfl rfl ?_
  refine z_il2 (pc' := 9) 5 rfl rfl ?_
  refine z_callV1 (pc' := 12) 6 rfl rfl k_Mo_347 (by first | exact pmt_F | (rw [pmt_o (by decide)]; assumption) | exact pmt_t) (c_Mo_calls hi (pf_b.trans hp) (iA_b hs) hg) (by decide) (Nat.le_refl _) (Nat.le_refl _) rfl rfl (Nat.le_of_ble_eq_true rfl) ?_
  refine z_is3 rfl rfl (pc' := 13) 7 rfl rfl ?_
  refine z_il3 (pc' := 14) 8 rfl rfl ?_
  refine z_al0 (pc' := 15) 9 rfl rfl ?_
  refine z_il1 (pc' := 16) 10 rfl rfl ?_
  refine z_il2 (pc' := 17) 11 rfl rfl ?_
  refine z_callV (pc' := 20) 12 rfl rfl k_Mo_350 (by first | exact pmt_F | (rw [pmt_o (by decide)]; assumption) | exact pmt_t) (c_Mo_shares hi (pf_ca.trans (pf_b.trans hp)) (iA_ca (iA_b hs)) hg) (by decide) (Nat.le_refl _) (Nat.le_refl _) rfl rfl (Nat.le_of_ble_eq_true rfl) (fun r17 μ17 h17 => ?_)
  obtain ⟨⟨v9, z0, z2⟩, z1⟩ := h17
  subst z0; subst z1
  dsimp only [Option.toList_some, List.cons_append, List.nil_append]
  refine z_isub (pc' := 21) 13 rfl rfl ?_
  exact z_ireturn 14 rfl rfl (by first | rfl | exact zbo_nar) rfl rfl (by exact ⟨⟨_, rfl, fun z => by rw [z2 z]; rfl⟩, rfl⟩)
set_option maxHeartbeats 4000000 in
set_option maxRecDepth 100000 in
theorem c_Mo_weds {G : zG} {n u : Nat} {ν : Nat → va_E} {s : Nat → Int32} {S : Nat → Nat → Nat} {mo : Nat} {pr fa : Nat → Nat} {sc ch : Int32} {rc : Nat} {ρ : Nat → Int32} {st : zAc} (hi : iS S) (hp : st.2.1 = false) (hs : iA st) {g : Nat} (hg : g < 6) {x : Int32} : zMet G 6 M_Mo_weds [.ref 88, .int (nI g), .int x] n u (pmt ν s (mk S mo pr fa sc ch rc ρ) st) n u (fun r μ' => (∃ v : Int32, r = some (.int v) ∧ ((weK (S 1 g) g (S 3 g) x st).2.2.1 = false → v = (weK (S 1 g) g (S 3 g) x st).1)) ∧ μ' = pmt ν s (mk S mo pr fa sc ch rc ρ) (weK (S 1 g) g (S 3 g) x st).2) := by
  have hk9 := (hi.2.2.2.2.2 g).1
  have hw9 := (hi.2.2.2.2.2 g).2.2.1
  refine z_start (lv := [.ref 88, .int (nI g), .int x, .retAddr 0]) K_Mo_weds rfl rfl (Nat.le_refl _) (Nat.le_refl _) (Nat.le_of_ble_eq_true rfl) rfl ?_
  refine z_al0 (pc' := 1) 0 rfl rfl ?_
  refine z_il1 (pc' := 2) 1 rfl rfl ?_
  refine z_iconst (v := nI 0) (by decide) (pc' := 3) 2 rfl rfl ?_
  refine z_callV1 (pc' := 6) 3 rfl rfl k_Mo_75 (by first | exact pmt_F | (rw [pmt_o (by decide)]; assumption) | exact pmt_t) (c_Mo_of0 hg) (by decide) (Nat.le_refl _) (Nat.le_refl _) rfl rfl (Nat.le_of_ble_eq_true rfl) ?_
  refine z_iconst (v := nI 3) (by decide) (pc' := 7) 4 rfl rfl ?_
  first | refine z_icmp_eq (pc' := 10) 5 rfl rfl (tgt := 17) rfl (fun h7 => ?_) (fun h7 => ?_)
  · refine z_al0 (pc' := 18) 11 rfl rfl ?_
    refine z_bipush (v := nI 51) (by decide) (pc' := 20) 12 rfl rfl ?_
    refine z_callV0 (pc' := 23) 13 rfl rfl k_Mo_326 (by first | exact pmt_F | (rw [pmt_o (by decide)]; assumption) | exact pmt_t) (c_Mo_begins hp hs) (by decide) (Nat.le_refl _) (Nat.le_refl _) rfl rfl (Nat.le_of_ble_eq_true rfl) ?_
    refine z_al0 (pc' := 24) 14 rfl rfl ?_
    refine z_il1 (pc' := 25) 15 rfl rfl ?_
    refine z_il2 (pc' := 26) 16 rfl rfl ?_
    refine z_callV (pc' := 29) 17 rfl rfl k_Mo_353 (by first | exact pmt_F | (rw [pmt_o (by decide)]; assumption) | exact pmt_t) (c_Mo_plainWeds hi (pf_b.trans hp) (iA_b hs) hg) (by decide) (Nat.le_refl _) (Nat.le_refl _) rfl rfl (Nat.le_of_ble_eq_true rfl) (fun r26 μ26 h26 => ?_)
    obtain ⟨⟨v9, y0, y2⟩, y1⟩ := h26
    subst y0; subst y1
    dsimp only [Option.toList_some, List.cons_append, List.nil_append]
    refine z_is3 rfl rfl (pc' := 30) 18 rfl rfl ?_
    refine z_al0 (pc' := 31) 19 rfl rfl ?_
    refine z_getf (pc' := 34) 20 rfl rfl f_Mo_338_12 (by first | exact pmt_F | (rw [pmt_o (by decide)]; assumption) | exact pmt_t) (by rfl) ?_
    refine z_te (show _ = bI (weP (S 1 g) g (S 3 g) x (bgS 51 st)).2.2.1 from rfl) ?_
    first | refine z_if_eqB (pc' := 37) 21 rfl rfl (tgt := 41) rfl (fun h34 => ?_) (fun h34 => ?_) | refine z_if_eqN (pc' := 37) 21 rfl rfl (tgt := 41) rfl (by omega) (fun h34 => ?_) (fun h34 => ?_) | refine z_if_eq (pc' := 37) 21 rfl rfl (tgt := 41) rfl (fun h34 => ?_) (fun h34 => ?_)
    · refine z_il3 (pc' := 42) 24 rfl rfl ?_
      refine z_al0 (pc' := 43) 25 rfl rfl ?_
      refine z_il1 (pc' := 44) 26 rfl rfl ?_
      refine z_al0 (pc' := 45) 27 rfl rfl ?_
      refine z_il1 (pc' := 46) 28 rfl rfl ?_
      refine z_iconst (v := nI 2) (by decide) (pc' := 47) 29 rfl rfl ?_
      refine z_callV1 (pc' := 50) 30 rfl rfl k_Mo_75 (by first | exact pmt_F | (rw [pmt_o (by decide)]; assumption) | exact pmt_t) (c_Mo_of2 hg) (by decide) (Nat.le_refl _) (Nat.le_refl _) rfl rfl (Nat.le_of_ble_eq_true rfl) ?_
      refine z_callV1 (pc' := 53) 31 rfl rfl k_Mo_347 (by first | exact pmt_F | (rw [pmt_o (by decide)]; assumption) | exact pmt_t) (c_Mo_calls hi (eq_false_of_ne_true h34) (iA_wp (iA_b hs)) hg) (by decide) (Nat.le_refl _) (Nat.le_refl _) rfl rfl (Nat.le_of_ble_eq_true rfl) ?_
      refine z_iadd (pc' := 54) 32 rfl rfl ?_
      exact z_ireturn 33 rfl rfl (by first | rfl | exact zbo_nar) rfl rfl (by have k1 : S 1 g = 3 := (nI_eq (by omega) (by omega)).mp h7; rw [weK, if_pos k1]; refine ⟨⟨_, rfl, fun _ => by rw [y2 (eq_false_of_ne_true h34)]⟩, rfl⟩)
    · refine z_iconst (v := nI 0) (by decide) (pc' := 38) 22 rfl rfl ?_
      refine z_goto 23 rfl (tgt := 54) rfl ?_
      exact z_ireturn 33 rfl rfl (by first | rfl | exact zbo_nar) rfl rfl (by have k1 : S 1 g = 3 := (nI_eq (by omega) (by omega)).mp h7; rw [weK, if_pos k1]; refine ⟨⟨_, rfl, fun z => ?_⟩, ?_⟩; have z : (caK (S 1 g) g (S 3 g) (nI (S 3 g)) (weP (S 1 g) g (S 3 g) x (bgS 51 st)).2).2.2.1 = false := z; rw [pf_ca, h34] at z; cases z; show _ = pmt ν s _ (caK (S 1 g) g (S 3 g) (nI (S 3 g)) (weP (S 1 g) g (S 3 g) x (bgS 51 st)).2).2; rw [pt_ca h34])
  · refine z_al0 (pc' := 11) 6 rfl rfl ?_
    refine z_il1 (pc' := 12) 7 rfl rfl ?_
    refine z_il2 (pc' := 13) 8 rfl rfl ?_
    refine z_callV (pc' := 16) 9 rfl rfl k_Mo_353 (by first | exact pmt_F | (rw [pmt_o (by decide)]; assumption) | exact pmt_t) (c_Mo_plainWeds hi hp hs hg) (by decide) (Nat.le_refl _) (Nat.le_refl _) rfl rfl (Nat.le_of_ble_eq_true rfl) (fun r13 μ13 h13 => ?_)
    obtain ⟨⟨v13, z0, z2⟩, z1⟩ := h13
    subst z0; subst z1
    dsimp only [Option.toList_some, List.cons_append, List.nil_append]
    exact z_ireturn 10 rfl rfl (by first | rfl | exact zbo_nar) rfl rfl (by rw [weK, if_neg (show S 1 g ≠ 3 from fun z => h7 (by rw [z]))]; exact ⟨⟨v13, rfl, z2⟩, rfl⟩)
def sEqT (s s' : Nat → Int32) : Prop := s' 3 = s 3 ∧ s' 5 = s 5 ∧ s' 23 = s 23
def mKa (μ : Nat → va_E) (s : Nat → Int32) (κ : zκ) (a : Int32) (tc : Nat) (tr : Nat → Int32) : zP := fun r μ' => r = some (.int a) ∧ ∃ s' : Nat → Int32, sEqT s s' ∧ mst μ' s' κ ∧ s' 32 = nI tc ∧ μ' 105 = .inl (0, 30, .inl tr) ∧ ∀ i, i ≠ 88 → i ≠ 105 → μ' i = μ i
theorem mKa_of {μ : Nat → va_E} {s : Nat → Int32} {κ : zκ} (h : mst μ s κ) {S : Nat → Nat → Nat} {mo : Nat} {pr fa : Nat → Nat} {sc ch : Int32} {rc : Nat} {ρ : Nat → Int32} (h89 : μ 89 = .inl (0, 618, .inl (mk S mo pr fa sc ch rc ρ))) {r : Int32} {st : zAc} : mKa μ s κ r st.1 st.2.2 (some (.int r)) (pmt μ s (mk S mo pr fa sc ch rc ρ) st) := by
  have h0 : mst (pmt μ s (mk S mo pr fa sc ch rc ρ) st) (sst s st) κ := by
    obtain ⟨S0, mo0, pr0, fa0, sc0, ch0, rc0, D0⟩ := κ
    obtain ⟨⟨ρ0, g1, g1d⟩, g2, ⟨q3, g3⟩, ⟨q4, g4⟩, ⟨q5, g5⟩, ⟨q6, g6⟩, ⟨q7, g7⟩, ⟨q8, g8⟩, g9⟩ := h
    refine ⟨⟨ρ0, ?_, g1d⟩, pmt_f, ⟨q3, ?_⟩, ⟨q4, ?_⟩, ⟨q5, ?_⟩, ⟨q6, ?_⟩, ⟨q7, ?_⟩, ⟨q8, ?_⟩, g9⟩
    · exact (show _ = μ 89 from (pm_1 (ν := zu μ 105 (.inl (0, 30, .inl st.2.2))) (s := sst s st)).trans h89.symm).trans g1
    all_goals (rw [pmt_o (by decide)]; assumption)
  refine ⟨rfl, sst s st, ⟨rfl, rfl, rfl⟩, h0, rfl, pmt_t, fun i a b => ?_⟩
  by_cases e : i = 89
  · subst e; exact (pm_1 (ν := zu μ 105 (.inl (0, 30, .inl st.2.2))) (s := sst s st)).trans h89.symm
  · rw [pmt_o ⟨by omega, b⟩]
theorem mKa_e {μ : Nat → va_E} {s : Nat → Int32} {κ : zκ} (h : mst μ s κ) {S : Nat → Nat → Nat} {mo : Nat} {pr fa : Nat → Nat} {sc ch : Int32} {rc : Nat} {ρ : Nat → Int32} (h89 : μ 89 = .inl (0, 618, .inl (mk S mo pr fa sc ch rc ρ))) {r : Int32} {tr : Nat → Int32} (h105 : μ 105 = .inl (0, 30, .inl tr)) : mKa μ s κ r 0 tr (some (.int r)) (pm μ (un s 32 (nI 0)) (mk S mo pr fa sc ch rc ρ)) := by
  have hf : ∀ i, i ≠ 88 → pm μ (un s 32 (nI 0)) (mk S mo pr fa sc ch rc ρ) i = μ i := fun i a => by
    by_cases e : i = 89
    · subst e; exact pm_1.trans h89.symm
    · exact pm_o (by omega)
  refine ⟨rfl, un s 32 (nI 0), ⟨rfl, rfl, rfl⟩, ?_, rfl, (hf 105 (by decide)).trans h105, fun i a _ => hf i a⟩
  obtain ⟨S0, mo0, pr0, fa0, sc0, ch0, rc0, D0⟩ := κ
  obtain ⟨⟨ρ0, g1, g1d⟩, g2, ⟨q3, g3⟩, ⟨q4, g4⟩, ⟨q5, g5⟩, ⟨q6, g6⟩, ⟨q7, g7⟩, ⟨q8, g8⟩, g9⟩ := h
  refine ⟨⟨ρ0, ?_, g1d⟩, pm_0, ⟨q3, ?_⟩, ⟨q4, ?_⟩, ⟨q5, ?_⟩, ⟨q6, ?_⟩, ⟨q7, ?_⟩, ⟨q8, ?_⟩, g9⟩
  all_goals (rw [hf _ (by decide)]; assumption)
set_option maxHeartbeats 4000000 in
set_option maxRecDepth 100000 in
theorem c_Mo_act {G : zG} {n u : Nat} {μ : Nat → va_E} {κ : zκ} {σ : zσ} {s : Nat → Int32} {tc : Nat} {tr : Nat → Int32} (h : mst μ s κ) (hhe : isHeM μ σ) (h32 : s 32 = nI tc) (h105 : μ 105 = .inl (0, 30, .inl tr)) (x y v : Int32) : zMet G 7 M_Mo_act [.ref 88, .int x, .int y, .int v] n u μ n u (fun r μ' => (acC κ.1 σ x y → mKa μ s κ (acA (acR κ.1 σ tr x y v)) (acR κ.1 σ tr x y v).2.1 (acR κ.1 σ tr x y v).2.2.2 r μ') ∧ (¬ acC κ.1 σ x y → mKa μ s κ (nI 0) 0 tr r μ')) := by
  obtain ⟨S, mo, pr, fa, sc, ch, rc, D⟩ := κ
  have hst := h
  obtain ⟨⟨ρ, h1, hD⟩, h2, ⟨q93, h93⟩, ⟨q91, h91⟩, ⟨q94, h94⟩, ⟨q95, h95⟩, ⟨q96, h96⟩, ⟨q97, h97⟩, h5⟩ := h
  have hk5 := h5
  obtain ⟨hi, hx, hmo, hrc⟩ := h5
  have hi0 := hi.1
  have hi1 := hi.2.1
  have hi2 := hi.2.2.1
  have hi3 := hi.2.2.2.2.1
  have hhe0 := hhe
  obtain ⟨he, hs, h102, h103, h104, hH⟩ := hhe
  obtain ⟨p0, e33⟩ : ∃ p0 : Int32, s 33 = p0 := ⟨_, rfl⟩
  refine z_start (lv := [.ref 88, .int x, .int y, .int v, .retAddr 0, .retAddr 0]) K_Mo_act rfl rfl (Nat.le_refl _) (Nat.le_refl _) (Nat.le_of_ble_eq_true rfl) rfl ?_
  refine z_mu (pm_id h2 h1).symm ?_
  refine z_al0 (pc' := 1) 0 rfl rfl ?_
  refine z_iconst (v := nI 0) (by decide) (pc' := 2) 1 rfl rfl ?_
  refine z_putf (pc' := 5) 2 rfl rfl f_Mo_323_12 (by first | exact pmt_F | exact pm_f | exact pmt_t | (rw [pmt_o (by decide)]; assumption) | (rw [pm_o (by decide)]; assumption)) rfl rfl (by rfl) (by rfl) ?_
  dsimp only [List.set]
  rw [mob_32, pm_s0]
  refine z_il1 (pc' := 6) 3 rfl rfl ?_
  refine z_callS1 (pc' := 9) 4 rfl rfl k_Mo_310 (c_Mo_isFour _) (by decide) (Nat.le_refl _) (Nat.le_refl _) rfl rfl (Nat.le_of_ble_eq_true rfl) ?_
  first | refine z_if_eqB (pc' := 12) 5 rfl rfl (tgt := 29) rfl (fun h9 => ?_) (fun h9 => ?_) | refine z_if_eqN (pc' := 12) 5 rfl rfl (tgt := 29) rfl (by omega) (fun h9 => ?_) (fun h9 => ?_) | refine z_if_eq (pc' := 12) 5 rfl rfl (tgt := 29) rfl (fun h9 => ?_) (fun h9 => ?_)
  · refine z_iconst (v := nI 0) (by decide) (pc' := 30) 15 rfl rfl ?_
    exact z_ireturn 16 rfl rfl (by first | rfl | exact zbo_nar) rfl rfl (by refine ⟨fun z => absurd z.1 h9, fun _ => ?_⟩; exact mKa_e hst h1 h105)
  · refine z_il2 (pc' := 13) 6 rfl rfl ?_
    refine z_iconst (v := nI 0) (by decide) (pc' := 14) 7 rfl rfl ?_
    refine z_iconst (v := nI 3) (by decide) (pc' := 15) 8 rfl rfl ?_
    refine z_callS1 (pc' := 18) 9 rfl rfl k_Mo_67 (c_Mo_in _ _ _) (by decide) (Nat.le_refl _) (Nat.le_refl _) rfl rfl (Nat.le_of_ble_eq_true rfl) ?_
    first | refine z_if_eqB (pc' := 21) 10 rfl rfl (tgt := 29) rfl (fun h18 => ?_) (fun h18 => ?_) | refine z_if_eqN (pc' := 21) 10 rfl rfl (tgt := 29) rfl (by omega) (fun h18 => ?_) (fun h18 => ?_) | refine z_if_eq (pc' := 21) 10 rfl rfl (tgt := 29) rfl (fun h18 => ?_) (fun h18 => ?_)
    · refine z_iconst (v := nI 0) (by decide) (pc' := 30) 15 rfl rfl ?_
      exact z_ireturn 16 rfl rfl (by first | rfl | exact zbo_nar) rfl rfl (by refine ⟨fun z => absurd z.2.1 h18, fun _ => ?_⟩; exact mKa_e hst h1 h105)
    · have h9x := h9
      obtain ⟨x1, hx0, hx1, rfl⟩ := z_wi h9 (by decide) (by decide)
      have hH1 := (hH x1).1
      refine z_al0 (pc' := 22) 11 rfl rfl ?_
      refine z_il1 (pc' := 23) 12 rfl rfl ?_
      refine z_callV1 (pc' := 26) 13 rfl rfl k_Mo_320 (by first | exact pmt_F | exact pm_f | exact pmt_t | (rw [pmt_o (by decide)]; assumption) | (rw [pm_o (by decide)]; assumption)) (c_Mo_hasGirl hi (σ := σ) hhe0 hx1) (by decide) (Nat.le_refl _) (Nat.le_refl _) rfl rfl (Nat.le_of_ble_eq_true rfl) ?_
      first | refine z_if_neB (pc' := 29) 14 rfl rfl (tgt := 31) rfl (fun h26 => ?_) (fun h26 => ?_) | refine z_if_neN (pc' := 29) 14 rfl rfl (tgt := 31) rfl (by omega) (fun h26 => ?_) (fun h26 => ?_) | refine z_if_ne (pc' := 29) 14 rfl rfl (tgt := 31) rfl (fun h26 => ?_) (fun h26 => ?_)
      · obtain ⟨y1, hy0, hy1, rfl⟩ := z_wi h18 (by decide) (by decide)
        obtain ⟨g1, hg1, eg⟩ := z_in h26.2 (by omega)
        have hac : acC S σ (nI x1) (nI y1) := ⟨h9x, h18, by rw [tN_n (by omega), hld, if_neg (fun z => z.2 h26.2)]; exact h26.1⟩
        refine z_al0 (pc' := 32) 17 rfl rfl ?_
        refine z_getf (pc' := 35) 18 rfl rfl f_Mo_54_12 (by first | exact pmt_F | exact pm_f | exact pmt_t | (rw [pmt_o (by decide)]; assumption) | (rw [pm_o (by decide)]; assumption)) (by rfl) ?_
        refine z_il1 (pc' := 36) 19 rfl rfl ?_
        refine z_iald (pc' := 37) 20 rfl rfl (by first | exact pmt_F | exact pm_f | exact pmt_t | (rw [pmt_o (by decide)]; assumption) | (rw [pm_o (by decide)]; assumption)) (by omega) (by decide) ?_
        rw [(hH x1).2.1 h26.1, eg]
        refine z_is4 rfl rfl (pc' := 39) 21 rfl rfl ?_
        refine z_al0 (pc' := 40) 22 rfl rfl ?_
        refine z_iconst (v := nI 0) (by decide) (pc' := 41) 23 rfl rfl ?_
        refine z_putf (pc' := 44) 24 rfl rfl f_Mo_338_12 (by first | exact pmt_F | exact pm_f | exact pmt_t | (rw [pmt_o (by decide)]; assumption) | (rw [pm_o (by decide)]; assumption)) rfl rfl (by rfl) (by rfl) ?_
        dsimp only [List.set]
        rw [mob_33, pm_s0]
        refine z_mu (show _ = pmt μ s (mk S mo pr fa sc ch rc ρ) (0, false, tr) by unfold pmt; rw [zu_id h105]; rfl) ?_
        refine z_il2 (pc' := 45) 25 rfl rfl ?_
        first | refine z_if_ne (pc' := 48) 26 rfl rfl (tgt := 58) rfl (fun h45 => ?_) (fun h45 => ?_)
        · refine z_il2 (pc' := 59) 32 rfl rfl ?_
          refine z_iconst (v := nI 1) (by decide) (pc' := 60) 33 rfl rfl ?_
          first | refine z_icmp_neN (pc' := 63) 34 rfl rfl (tgt := 73) rfl (by omega) (by omega) (fun h60 => ?_) (fun h60 => ?_) | refine z_icmp_ne (pc' := 63) 34 rfl rfl (tgt := 73) rfl (fun h60 => ?_) (fun h60 => ?_)
          · refine z_il2 (pc' := 74) 40 rfl rfl ?_
            refine z_iconst (v := nI 2) (by decide) (pc' := 75) 41 rfl rfl ?_
            first | refine z_icmp_neN (pc' := 78) 42 rfl rfl (tgt := 88) rfl (by omega) (by omega) (fun h75 => ?_) (fun h75 => ?_) | refine z_icmp_ne (pc' := 78) 42 rfl rfl (tgt := 88) rfl (fun h75 => ?_) (fun h75 => ?_)
            · refine z_al0 (pc' := 89) 48 rfl rfl ?_
              refine z_il4 (pc' := 91) 49 rfl rfl ?_
              refine z_il3 (pc' := 92) 50 rfl rfl ?_
              refine z_callV (pc' := 95) 51 rfl rfl k_Mo_356 (by first | exact pmt_F | exact pm_f | exact pmt_t | (rw [pmt_o (by decide)]; assumption) | (rw [pm_o (by decide)]; assumption)) (c_Mo_weds (st := (0, false, tr)) hi rfl (Nat.zero_le _) (g := g1) (by omega)) (by decide) (Nat.le_refl _) (Nat.le_refl _) rfl rfl (Nat.le_of_ble_eq_true rfl) (fun r92 μ92 h92 => ?_)
              obtain ⟨⟨v9, z0, z2⟩, z1⟩ := h92
              subst z0; subst z1
              dsimp only [Option.toList_some, List.cons_append, List.nil_append]
              have h45b : y1 ≠ 0 := fun z => h45 (by rw [z]; rfl)
              have hy9 : y1 = 3 := by omega
              have e9 : acR S σ tr (nI x1) (nI y1) v = weK (S 1 g1) g1 (S 3 g1) v (0, false, tr) := by
                unfold acR
                rw [tN_n (by omega), tN_n (by omega), eg, tN_n (by omega), hy9]
                rfl
              rw [← e9]
              rw [← e9] at z2
              generalize acR S σ tr (nI x1) (nI y1) v = R at *
              obtain ⟨r9, b9, p9, t9⟩ := R
              refine z_is5 rfl rfl (pc' := 97) 52 rfl rfl ?_
              refine z_al0 (pc' := 98) 53 rfl rfl ?_
              refine z_getf (pc' := 101) 54 rfl rfl f_Mo_338_12 (by first | exact pmt_F | (rw [pmt_o (by decide)]; assumption) | exact pmt_t) (by rfl) ?_
              refine z_te (show _ = bI p9 from rfl) ?_
              first | refine z_if_eqB (pc' := 104) 55 rfl rfl (tgt := 109) rfl (fun h101 => ?_) (fun h101 => ?_) | refine z_if_eqN (pc' := 104) 55 rfl rfl (tgt := 109) rfl (by omega) (fun h101 => ?_) (fun h101 => ?_) | refine z_if_eq (pc' := 104) 55 rfl rfl (tgt := 109) rfl (fun h101 => ?_) (fun h101 => ?_)
              · refine z_il5 (pc' := 111) 58 rfl rfl ?_
                exact z_ireturn 59 rfl rfl (by first | rfl | exact zbo_nar) rfl rfl (by have z3 := z2 (eq_false_of_ne_true h101); subst z3; refine ⟨fun _ => ?_, fun z => absurd hac z⟩; rw [acA, if_neg h101]; exact mKa_of (st := (b9, p9, t9)) hst h1)
              · refine z_bipush (v := (-15)) (by decide) (pc' := 106) 56 rfl rfl ?_
                refine z_goto 57 rfl (tgt := 111) rfl ?_
                exact z_ireturn 59 rfl rfl (by first | rfl | exact zbo_nar) rfl rfl (by refine ⟨fun _ => ?_, fun z => absurd hac z⟩; rw [acA, if_pos h101]; exact mKa_of (st := (b9, p9, t9)) hst h1)
            · refine z_al0 (pc' := 79) 43 rfl rfl ?_
              refine z_il4 (pc' := 81) 44 rfl rfl ?_
              refine z_il3 (pc' := 82) 45 rfl rfl ?_
              refine z_callV (pc' := 85) 46 rfl rfl k_Mo_350 (by first | exact pmt_F | exact pm_f | exact pmt_t | (rw [pmt_o (by decide)]; assumption) | (rw [pm_o (by decide)]; assumption)) (c_Mo_shares (st := (0, false, tr)) hi rfl (Nat.zero_le _) (g := g1) (by omega)) (by decide) (Nat.le_refl _) (Nat.le_refl _) rfl rfl (Nat.le_of_ble_eq_true rfl) (fun r82 μ82 h82 => ?_)
              obtain ⟨⟨v9, z0, z2⟩, z1⟩ := h82
              subst z0; subst z1
              dsimp only [Option.toList_some, List.cons_append, List.nil_append]
              refine z_goto 47 rfl (tgt := 95) rfl ?_
              have hy9 : y1 = 2 := h75
              have e9 : acR S σ tr (nI x1) (nI y1) v = shK (S 1 g1) g1 (S 3 g1) v (0, false, tr) := by
                unfold acR
                rw [tN_n (by omega), tN_n (by omega), eg, tN_n (by omega), hy9]
                rfl
              rw [← e9]
              rw [← e9] at z2
              generalize acR S σ tr (nI x1) (nI y1) v = R at *
              obtain ⟨r9, b9, p9, t9⟩ := R
              refine z_is5 rfl rfl (pc' := 97) 52 rfl rfl ?_
              refine z_al0 (pc' := 98) 53 rfl rfl ?_
              refine z_getf (pc' := 101) 54 rfl rfl f_Mo_338_12 (by first | exact pmt_F | (rw [pmt_o (by decide)]; assumption) | exact pmt_t) (by rfl) ?_
              refine z_te (show _ = bI p9 from rfl) ?_
              first | refine z_if_eqB (pc' := 104) 55 rfl rfl (tgt := 109) rfl (fun h101 => ?_) (fun h101 => ?_) | refine z_if_eqN (pc' := 104) 55 rfl rfl (tgt := 109) rfl (by omega) (fun h101 => ?_) (fun h101 => ?_) | refine z_if_eq (pc' := 104) 55 rfl rfl (tgt := 109) rfl (fun h101 => ?_) (fun h101 => ?_)
              · refine z_il5 (pc' := 111) 58 rfl rfl ?_
                exact z_ireturn 59 rfl rfl (by first | rfl | exact zbo_nar) rfl rfl (by have z3 := z2 (eq_false_of_ne_true h101); subst z3; refine ⟨fun _ => ?_, fun z => absurd hac z⟩; rw [acA, if_neg h101]; exact mKa_of (st := (b9, p9, t9)) hst h1)
              · refine z_bipush (v := (-15)) (by decide) (pc' := 106) 56 rfl rfl ?_
                refine z_goto 57 rfl (tgt := 111) rfl ?_
                exact z_ireturn 59 rfl rfl (by first | rfl | exact zbo_nar) rfl rfl (by refine ⟨fun _ => ?_, fun z => absurd hac z⟩; rw [acA, if_pos h101]; exact mKa_of (st := (b9, p9, t9)) hst h1)
          · refine z_al0 (pc' := 64) 35 rfl rfl ?_
            refine z_il4 (pc' := 66) 36 rfl rfl ?_
            refine z_il3 (pc' := 67) 37 rfl rfl ?_
            refine z_callV1 (pc' := 70) 38 rfl rfl k_Mo_347 (by first | exact pmt_F | exact pm_f | exact pmt_t | (rw [pmt_o (by decide)]; assumption) | (rw [pm_o (by decide)]; assumption)) (c_Mo_calls (st := (0, false, tr)) hi rfl (Nat.zero_le _) (g := g1) (by omega)) (by decide) (Nat.le_refl _) (Nat.le_refl _) rfl rfl (Nat.le_of_ble_eq_true rfl) ?_
            refine z_goto 39 rfl (tgt := 95) rfl ?_
            have hy9 : y1 = 1 := h60
            have e9 : acR S σ tr (nI x1) (nI y1) v = caK (S 1 g1) g1 (S 3 g1) v (0, false, tr) := by
              unfold acR
              rw [tN_n (by omega), tN_n (by omega), eg, tN_n (by omega), hy9]
              rfl
            rw [← e9]
            generalize acR S σ tr (nI x1) (nI y1) v = R at *
            obtain ⟨r9, b9, p9, t9⟩ := R
            refine z_is5 rfl rfl (pc' := 97) 52 rfl rfl ?_
            refine z_al0 (pc' := 98) 53 rfl rfl ?_
            refine z_getf (pc' := 101) 54 rfl rfl f_Mo_338_12 (by first | exact pmt_F | (rw [pmt_o (by decide)]; assumption) | exact pmt_t) (by rfl) ?_
            refine z_te (show _ = bI p9 from rfl) ?_
            first | refine z_if_eqB (pc' := 104) 55 rfl rfl (tgt := 109) rfl (fun h101 => ?_) (fun h101 => ?_) | refine z_if_eqN (pc' := 104) 55 rfl rfl (tgt := 109) rfl (by omega) (fun h101 => ?_) (fun h101 => ?_) | refine z_if_eq (pc' := 104) 55 rfl rfl (tgt := 109) rfl (fun h101 => ?_) (fun h101 => ?_)
            · refine z_il5 (pc' := 111) 58 rfl rfl ?_
              exact z_ireturn 59 rfl rfl (by first | rfl | exact zbo_nar) rfl rfl (by refine ⟨fun _ => ?_, fun z => absurd hac z⟩; rw [acA, if_neg h101]; exact mKa_of (st := (b9, p9, t9)) hst h1)
            · refine z_bipush (v := (-15)) (by decide) (pc' := 106) 56 rfl rfl ?_
              refine z_goto 57 rfl (tgt := 111) rfl ?_
              exact z_ireturn 59 rfl rfl (by first | rfl | exact zbo_nar) rfl rfl (by refine ⟨fun _ => ?_, fun z => absurd hac z⟩; rw [acA, if_pos h101]; exact mKa_of (st := (b9, p9, t9)) hst h1)
        · refine z_al0 (pc' := 49) 27 rfl rfl ?_
          refine z_il4 (pc' := 51) 28 rfl rfl ?_
          refine z_il3 (pc' := 52) 29 rfl rfl ?_
          refine z_callV1 (pc' := 55) 30 rfl rfl k_Mo_332 (by first | exact pmt_F | exact pm_f | exact pmt_t | (rw [pmt_o (by decide)]; assumption) | (rw [pm_o (by decide)]; assumption)) (c_Mo_sails (st := (0, false, tr)) hi rfl (Nat.zero_le _) (g := g1) (by omega)) (by decide) (Nat.le_refl _) (Nat.le_refl _) rfl rfl (Nat.le_of_ble_eq_true rfl) ?_
          refine z_goto 31 rfl (tgt := 95) rfl ?_
          have hy9 : y1 = 0 := (nI_eq (by omega) (by decide)).mp h45
          have e9 : acR S σ tr (nI x1) (nI y1) v = saK (S 1 g1) g1 v (0, false, tr) := by
            unfold acR
            rw [tN_n (by omega), tN_n (by omega), eg, tN_n (by omega), hy9]
            rfl
          rw [← e9]
          generalize acR S σ tr (nI x1) (nI y1) v = R at *
          obtain ⟨r9, b9, p9, t9⟩ := R
          refine z_is5 rfl rfl (pc' := 97) 52 rfl rfl ?_
          refine z_al0 (pc' := 98) 53 rfl rfl ?_
          refine z_getf (pc' := 101) 54 rfl rfl f_Mo_338_12 (by first | exact pmt_F | (rw [pmt_o (by decide)]; assumption) | exact pmt_t) (by rfl) ?_
          refine z_te (show _ = bI p9 from rfl) ?_
          first | refine z_if_eqB (pc' := 104) 55 rfl rfl (tgt := 109) rfl (fun h101 => ?_) (fun h101 => ?_) | refine z_if_eqN (pc' := 104) 55 rfl rfl (tgt := 109) rfl (by omega) (fun h101 => ?_) (fun h101 => ?_) | refine z_if_eq (pc' := 104) 55 rfl rfl (tgt := 109) rfl (fun h101 => ?_) (fun h101 => ?_)
          · refine z_il5 (pc' := 111) 58 rfl rfl ?_
            exact z_ireturn 59 rfl rfl (by first | rfl | exact zbo_nar) rfl rfl (by refine ⟨fun _ => ?_, fun z => absurd hac z⟩; rw [acA, if_neg h101]; exact mKa_of (st := (b9, p9, t9)) hst h1)
          · refine z_bipush (v := (-15)) (by decide) (pc' := 106) 56 rfl rfl ?_
            refine z_goto 57 rfl (tgt := 111) rfl ?_
            exact z_ireturn 59 rfl rfl (by first | rfl | exact zbo_nar) rfl rfl (by refine ⟨fun _ => ?_, fun z => absurd hac z⟩; rw [acA, if_pos h101]; exact mKa_of (st := (b9, p9, t9)) hst h1)
      · refine z_iconst (v := nI 0) (by decide) (pc' := 30) 15 rfl rfl ?_
        exact z_ireturn 16 rfl rfl (by first | rfl | exact zbo_nar) rfl rfl (by refine ⟨fun z => absurd (hld_0 z.2.2) (by rw [tN_n (by omega)]; exact h26), fun _ => ?_⟩; exact mKa_e hst h1 h105)
set_option maxHeartbeats 4000000 in
set_option maxRecDepth 100000 in
theorem c_Mo_trace {G : zG} {n u : Nat} {μ : Nat → va_E} {s : Nat → Int32} {tc : Nat} {tr : Nat → Int32} (h88 : μ 88 = mob s) (h32 : s 32 = nI tc) (htc : tc ≤ 30) (h105 : μ 105 = .inl (0, 30, .inl tr)) (x : Int32) : zMet G 1 M_Mo_trace [.ref 88, .int x] n u μ n u (zE (some (.int (f_trace tc tr x))) μ) := by
  unfold mob at h88
  rw [h32] at h88
  have hsb := sub1_g (x := x) (k := tc) (by omega)
  refine z_start (lv := [.ref 88, .int x]) K_Mo_trace rfl rfl (Nat.le_refl _) (Nat.le_refl _) (Nat.le_of_ble_eq_true rfl) rfl ?_
  refine z_il1 (pc' := 1) 0 rfl rfl ?_
  refine z_iconst (v := nI 0) (by decide) (pc' := 2) 1 rfl rfl ?_
  refine z_al0 (pc' := 3) 2 rfl rfl ?_
  refine z_getf (pc' := 6) 3 rfl rfl f_Mo_323_12 (by assumption) (by rfl) ?_
  refine z_iconst (v := nI 1) (by decide) (pc' := 7) 4 rfl rfl ?_
  refine z_isub (pc' := 8) 5 rfl rfl ?_
  refine z_callS1 (pc' := 11) 6 rfl rfl k_Mo_67 (c_Mo_in _ _ _) (by decide) (Nat.le_refl _) (Nat.le_refl _) rfl rfl (Nat.le_of_ble_eq_true rfl) ?_
  first | refine z_if_eqB (pc' := 14) 7 rfl rfl (tgt := 23) rfl (fun h11 => ?_) (fun h11 => ?_) | refine z_if_eqN (pc' := 14) 7 rfl rfl (tgt := 23) rfl (by omega) (fun h11 => ?_) (fun h11 => ?_) | refine z_if_eq (pc' := 14) 7 rfl rfl (tgt := 23) rfl (fun h11 => ?_) (fun h11 => ?_)
  · refine z_bipush (v := (-3)) (by decide) (pc' := 25) 13 rfl rfl ?_
    exact z_ireturn 14 rfl rfl (by first | rfl | exact zbo_nar) rfl rfl (by exact ⟨by rw [f_trace, if_neg (fun z => h11 (hsb.mpr z))], rfl⟩)
  · obtain ⟨j, hj, rfl⟩ := z_in (hsb.mp h11) (by omega)
    refine z_al0 (pc' := 15) 8 rfl rfl ?_
    refine z_getf (pc' := 18) 9 rfl rfl f_Mo_60_12 (by assumption) (by rfl) ?_
    refine z_il1 (pc' := 19) 10 rfl rfl ?_
    refine z_iald (pc' := 20) 11 rfl rfl (by assumption) (by omega) (by decide) ?_
    refine z_goto 12 rfl (tgt := 25) rfl ?_
    exact z_ireturn 14 rfl rfl (by first | rfl | exact zbo_nar) rfl rfl (by exact ⟨by rw [f_trace, if_pos (hsb.mp h11), tN_n (by omega)], rfl⟩)
set_option maxHeartbeats 4000000 in
set_option maxRecDepth 100000 in
theorem c_Mo_many {G : zG} {n u : Nat} {μ : Nat → va_E} {κ : zκ} {s : Nat → Int32} {R ln tc : Nat} (h : mst μ s κ) (h23 : s 23 = nI R) (h5x : s 5 = nI ln) (h32 : s 32 = nI tc) (x : Int32) : zMet G 2 M_Mo_many [.ref 88, .int x] n u μ n u (zE (some (.int (f_many κ R ln tc x))) μ) := by
  obtain ⟨S, mo, pr, fa, sc, ch, rc, D⟩ := κ
  have hst := h
  obtain ⟨⟨ρ, h1, hD⟩, h2, ⟨q93, h93⟩, ⟨q91, h91⟩, ⟨q94, h94⟩, ⟨q95, h95⟩, ⟨q96, h96⟩, ⟨q97, h97⟩, h5⟩ := h
  have hk5 := h5
  obtain ⟨hi, hx, hmo, hrc⟩ := h5
  have hi0 := hi.1
  have hi1 := hi.2.1
  have hi2 := hi.2.2.1
  have hi3 := hi.2.2.2.2.1
  have hp9 := psN_lt pr (S 0 0) hi.1
  refine z_start (lv := [.ref 88, .int x]) K_Mo_many rfl rfl (Nat.le_refl _) (Nat.le_refl _) (Nat.le_of_ble_eq_true rfl) rfl ?_
  refine z_mu (pm_id h2 h1).symm ?_
  rw [show (zE (some (.int (f_many (S, mo, pr, fa, sc, ch, rc, D) R ln tc x))) μ) = (zE (some (.int (f_many (S, mo, pr, fa, sc, ch, rc, D) R ln tc x))) (pm μ s (mk S mo pr fa sc ch rc ρ))) by rw [pm_id h2 h1]]
  refine z_il1 (pc' := 1) 0 rfl rfl ?_
  first | refine z_swN (by omega) 0 (by decide) (fun h1_0 => ?_) (fun h1_0 => ?_) | refine z_sw 0 (fun h1_0 => ?_) (fun h1_0 => ?_)
  · refine z_tableIn 1 rfl (by decide) (by decide) (off := 47) rfl (tgt := 48) rfl ?_
    refine z_al0 (pc' := 49) 2 rfl rfl ?_
    refine z_getf (pc' := 52) 3 rfl rfl f_Mo_9_12 (by first | exact pm_f | exact pm_1 | (rw [pm_o (by decide)]; assumption)) (by rfl) ?_
    refine z_iconst (v := nI 3) (by decide) (pc' := 53) 4 rfl rfl ?_
    refine z_iald (pc' := 54) 5 rfl rfl (by first | exact pm_f | exact pm_1 | (rw [pm_o (by decide)]; assumption)) (by omega) (by decide) ?_
    rw [mk_3]
    exact z_ireturn 6 rfl rfl (by first | rfl | exact zbo_nar) rfl rfl (by exact ⟨by rw [f_many, if_pos h1_0], rfl⟩)
  first | refine z_swN (by omega) 1 (by decide) (fun h1_1 => ?_) (fun h1_1 => ?_) | refine z_sw 1 (fun h1_1 => ?_) (fun h1_1 => ?_)
  · refine z_tableIn 1 rfl (by decide) (by decide) (off := 54) rfl (tgt := 55) rfl ?_
    refine z_al0 (pc' := 56) 7 rfl rfl ?_
    refine z_getf (pc' := 59) 8 rfl rfl f_Mo_9_12 (by first | exact pm_f | exact pm_1 | (rw [pm_o (by decide)]; assumption)) (by rfl) ?_
    refine z_bipush (v := nI 7) (by decide) (pc' := 61) 9 rfl rfl ?_
    refine z_iald (pc' := 62) 10 rfl rfl (by first | exact pm_f | exact pm_1 | (rw [pm_o (by decide)]; assumption)) (by omega) (by decide) ?_
    rw [mk_7]
    exact z_ireturn 11 rfl rfl (by first | rfl | exact zbo_nar) rfl rfl (by exact ⟨by rw [f_many, if_neg h1_0, if_pos h1_1], rfl⟩)
  first | refine z_swN (by omega) 2 (by decide) (fun h1_2 => ?_) (fun h1_2 => ?_) | refine z_sw 2 (fun h1_2 => ?_) (fun h1_2 => ?_)
  · refine z_tableIn 1 rfl (by decide) (by decide) (off := 62) rfl (tgt := 63) rfl ?_
    refine z_al0 (pc' := 64) 12 rfl rfl ?_
    refine z_getf (pc' := 67) 13 rfl rfl f_Mo_9_12 (by first | exact pm_f | exact pm_1 | (rw [pm_o (by decide)]; assumption)) (by rfl) ?_
    refine z_iconst (v := nI 2) (by decide) (pc' := 68) 14 rfl rfl ?_
    refine z_iald (pc' := 69) 15 rfl rfl (by first | exact pm_f | exact pm_1 | (rw [pm_o (by decide)]; assumption)) (by omega) (by decide) ?_
    rw [mk_2]
    exact z_ireturn 16 rfl rfl (by first | rfl | exact zbo_nar) rfl rfl (by exact ⟨by rw [f_many, if_neg h1_0, if_neg h1_1, if_pos h1_2], rfl⟩)
  first | refine z_swN (by omega) 3 (by decide) (fun h1_3 => ?_) (fun h1_3 => ?_) | refine z_sw 3 (fun h1_3 => ?_) (fun h1_3 => ?_)
  · refine z_tableIn 1 rfl (by decide) (by decide) (off := 69) rfl (tgt := 70) rfl ?_
    refine z_al0 (pc' := 71) 17 rfl rfl ?_
    refine z_getf (pc' := 74) 18 rfl rfl f_Mo_9_12 (by first | exact pm_f | exact pm_1 | (rw [pm_o (by decide)]; assumption)) (by rfl) ?_
    refine z_bipush (v := nI 6) (by decide) (pc' := 76) 19 rfl rfl ?_
    refine z_iald (pc' := 77) 20 rfl rfl (by first | exact pm_f | exact pm_1 | (rw [pm_o (by decide)]; assumption)) (by omega) (by decide) ?_
    rw [mk_6]
    exact z_ireturn 21 rfl rfl (by first | rfl | exact zbo_nar) rfl rfl (by exact ⟨by rw [f_many, if_neg h1_0, if_neg h1_1, if_neg h1_2, if_pos h1_3], rfl⟩)
  first | refine z_swN (by omega) 4 (by decide) (fun h1_4 => ?_) (fun h1_4 => ?_) | refine z_sw 4 (fun h1_4 => ?_) (fun h1_4 => ?_)
  · refine z_tableIn 1 rfl (by decide) (by decide) (off := 77) rfl (tgt := 78) rfl ?_
    refine z_al0 (pc' := 79) 22 rfl rfl ?_
    refine z_getf (pc' := 82) 23 rfl rfl f_Mo_304_12 (by first | exact pm_f | exact pm_1 | (rw [pm_o (by decide)]; assumption)) (by rfl) ?_
    rw [h23]
    exact z_ireturn 24 rfl rfl (by first | rfl | exact zbo_nar) rfl rfl (by exact ⟨by rw [f_many, if_neg h1_0, if_neg h1_1, if_neg h1_2, if_neg h1_3, if_pos h1_4], rfl⟩)
  first | refine z_swN (by omega) 5 (by decide) (fun h1_5 => ?_) (fun h1_5 => ?_) | refine z_sw 5 (fun h1_5 => ?_) (fun h1_5 => ?_)
  · refine z_tableIn 1 rfl (by decide) (by decide) (off := 82) rfl (tgt := 83) rfl ?_
    refine z_al0 (pc' := 84) 25 rfl rfl ?_
    refine z_getf (pc' := 87) 26 rfl rfl f_Mo_128_12 (by first | exact pm_f | exact pm_1 | (rw [pm_o (by decide)]; assumption)) (by rfl) ?_
    rw [h5x]
    exact z_ireturn 27 rfl rfl (by first | rfl | exact zbo_nar) rfl rfl (by exact ⟨by rw [f_many, if_neg h1_0, if_neg h1_1, if_neg h1_2, if_neg h1_3, if_neg h1_4, if_pos h1_5], rfl⟩)
  first | refine z_swN (by omega) 6 (by decide) (fun h1_6 => ?_) (fun h1_6 => ?_) | refine z_sw 6 (fun h1_6 => ?_) (fun h1_6 => ?_)
  · refine z_tableIn 1 rfl (by decide) (by decide) (off := 87) rfl (tgt := 88) rfl ?_
    refine z_al0 (pc' := 89) 28 rfl rfl ?_
    refine z_getf (pc' := 92) 29 rfl rfl f_Mo_323_12 (by first | exact pm_f | exact pm_1 | (rw [pm_o (by decide)]; assumption)) (by rfl) ?_
    rw [h32]
    exact z_ireturn 30 rfl rfl (by first | rfl | exact zbo_nar) rfl rfl (by exact ⟨by rw [f_many, if_neg h1_0, if_neg h1_1, if_neg h1_2, if_neg h1_3, if_neg h1_4, if_neg h1_5, if_pos h1_6], rfl⟩)
  first | refine z_swN (by omega) 7 (by decide) (fun h1_7 => ?_) (fun h1_7 => ?_) | refine z_sw 7 (fun h1_7 => ?_) (fun h1_7 => ?_)
  · refine z_tableIn 1 rfl (by decide) (by decide) (off := 92) rfl (tgt := 93) rfl ?_
    refine z_al0 (pc' := 94) 31 rfl rfl ?_
    refine z_callV1 (pc' := 97) 32 rfl rfl k_Mo_260 (by first | exact pm_f | exact pm_1 | (rw [pm_o (by decide)]; assumption)) (c_Mo_promised hi (fun j => (hx j).1)) (by decide) (Nat.le_refl _) (Nat.le_refl _) rfl rfl (Nat.le_of_ble_eq_true rfl) ?_
    refine z_callS1 (pc' := 100) 33 rfl rfl k_Mo_359 (c_Mo_bits (Nat.lt_of_lt_of_eq hp9 rfl)) (by decide) (Nat.le_refl _) (Nat.le_refl _) rfl rfl (Nat.le_of_ble_eq_true rfl) ?_
    exact z_ireturn 34 rfl rfl (by first | rfl | exact zbo_nar) rfl rfl (by exact ⟨by rw [f_many, if_neg h1_0, if_neg h1_1, if_neg h1_2, if_neg h1_3, if_neg h1_4, if_neg h1_5, if_neg h1_6, if_pos h1_7], rfl⟩)
  refine z_tableOut 1 rfl (by first | (rw [nI_toInt (by omega)]; omega) | (have e0 := z_ne (by decide) h1_0; have e1 := z_ne (by decide) h1_1; have e2 := z_ne (by decide) h1_2; have e3 := z_ne (by decide) h1_3; have e4 := z_ne (by decide) h1_4; have e5 := z_ne (by decide) h1_5; have e6 := z_ne (by decide) h1_6; have e7 := z_ne (by decide) h1_7; omega)) (tgt := 101) rfl ?_
  refine z_iconst (v := (-1)) (by decide) (pc' := 102) 35 rfl rfl ?_
  exact z_ireturn 36 rfl rfl (by first | rfl | exact zbo_nar) rfl rfl (by exact ⟨by rw [f_many, if_neg h1_0, if_neg h1_1, if_neg h1_2, if_neg h1_3, if_neg h1_4, if_neg h1_5, if_neg h1_6, if_neg h1_7], rfl⟩)
