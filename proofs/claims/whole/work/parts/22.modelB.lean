/-- a value as the reference writes it: facts below 0 -/
def mop (c : Nat) : Int32 := if 100 ≤ c then nI (c - 100) else -nI (c - 12)
/-- the facts of a girl -/
def fct (mo f dw h g : Nat) : Nat → Nat := fcs mo f dw h g (fun _ => 0)
set_option maxHeartbeats 4000000 in
set_option maxRecDepth 100000 in
theorem c_Mo_factOf {G : zG} {n u : Nat} {ν : Nat → va_E} {s : Nat → Int32} {S : Nat → Nat → Nat} {mo : Nat} {pr fa : Nat → Nat} {sc ch : Int32} {rc : Nat} {ρ : Nat → Int32} {g c : Nat} (hg : g < 6) (hc : opv c) : zMet G 1 M_Mo_factOf [.ref 88, .int (nI g), .int (mop c)] n u (pm ν s (mk S mo pr fa sc ch rc ρ)) n u (zE (some (.int (nI (vl (fct mo (fa g) (S 3 g) (S 2 g) g) c)))) (pm ν s (mk S mo pr fa sc ch rc ρ))) := by
  unfold opv at hc
  rcases (show c = 13 ∨ c = 14 ∨ c = 15 ∨ c = 16 ∨ c = 17 ∨ 100 ≤ c by omega) with e | e | e | e | e | e
  · subst e
    show zMet G 1 M_Mo_factOf [.ref 88, .int (nI g), .int (-1)] n u _ n u _
    refine z_start (lv := [.ref 88, .int (nI g), .int (-1)]) K_Mo_factOf rfl rfl (Nat.le_refl _) (Nat.le_refl _) (Nat.le_of_ble_eq_true rfl) rfl ?_
    refine z_il2 (pc' := 1) 0 rfl rfl ?_
    refine z_tableIn 1 rfl (by decide) (by decide) (off := 35) rfl (tgt := 36) rfl ?_
    refine z_al0 (pc' := 37) 2 rfl rfl ?_
    refine z_getf (pc' := 40) 3 rfl rfl f_Mo_9_12 (by first | exact pm_f | exact pm_1 | (rw [pm_o (by decide)]; first | assumption | exact zu_s)) (by rfl) ?_
    refine z_iconst (v := nI 1) (by decide) (pc' := 41) 4 rfl rfl ?_
    refine z_iald (pc' := 42) 5 rfl rfl (by first | exact pm_f | exact pm_1 | (rw [pm_o (by decide)]; first | assumption | exact zu_s)) (by omega) (by decide) ?_
    rw [mk_1]
    exact z_ireturn 6 rfl rfl (by first | rfl | exact zbo_nar) rfl rfl (by exact ⟨rfl, rfl⟩)
  · subst e
    show zMet G 1 M_Mo_factOf [.ref 88, .int (nI g), .int (-2)] n u _ n u _
    refine z_start (lv := [.ref 88, .int (nI g), .int (-2)]) K_Mo_factOf rfl rfl (Nat.le_refl _) (Nat.le_refl _) (Nat.le_of_ble_eq_true rfl) rfl ?_
    refine z_il2 (pc' := 1) 0 rfl rfl ?_
    refine z_tableIn 1 rfl (by decide) (by decide) (off := 42) rfl (tgt := 43) rfl ?_
    refine z_al0 (pc' := 44) 7 rfl rfl ?_
    refine z_il1 (pc' := 45) 8 rfl rfl ?_
    refine z_iconst (v := nI 4) (by decide) (pc' := 46) 9 rfl rfl ?_
    refine z_callV1 (pc' := 49) 10 rfl rfl k_Mo_75 (by first | exact pm_f | exact pm_1 | (rw [pm_o (by decide)]; first | assumption | exact zu_s)) (c_Mo_of4 hg) (by decide) (Nat.le_refl _) (Nat.le_refl _) rfl rfl (Nat.le_of_ble_eq_true rfl) ?_
    exact z_ireturn 11 rfl rfl (by first | rfl | exact zbo_nar) rfl rfl (by exact ⟨rfl, rfl⟩)
  · subst e
    show zMet G 1 M_Mo_factOf [.ref 88, .int (nI g), .int (-3)] n u _ n u _
    refine z_start (lv := [.ref 88, .int (nI g), .int (-3)]) K_Mo_factOf rfl rfl (Nat.le_refl _) (Nat.le_refl _) (Nat.le_of_ble_eq_true rfl) rfl ?_
    refine z_il2 (pc' := 1) 0 rfl rfl ?_
    refine z_tableIn 1 rfl (by decide) (by decide) (off := 49) rfl (tgt := 50) rfl ?_
    refine z_al0 (pc' := 51) 12 rfl rfl ?_
    refine z_il1 (pc' := 52) 13 rfl rfl ?_
    refine z_iconst (v := nI 2) (by decide) (pc' := 53) 14 rfl rfl ?_
    refine z_callV1 (pc' := 56) 15 rfl rfl k_Mo_75 (by first | exact pm_f | exact pm_1 | (rw [pm_o (by decide)]; first | assumption | exact zu_s)) (c_Mo_of2 hg) (by decide) (Nat.le_refl _) (Nat.le_refl _) rfl rfl (Nat.le_of_ble_eq_true rfl) ?_
    exact z_ireturn 16 rfl rfl (by first | rfl | exact zbo_nar) rfl rfl (by exact ⟨rfl, rfl⟩)
  · subst e
    show zMet G 1 M_Mo_factOf [.ref 88, .int (nI g), .int (-4)] n u _ n u _
    refine z_start (lv := [.ref 88, .int (nI g), .int (-4)]) K_Mo_factOf rfl rfl (Nat.le_refl _) (Nat.le_refl _) (Nat.le_of_ble_eq_true rfl) rfl ?_
    refine z_il2 (pc' := 1) 0 rfl rfl ?_
    refine z_tableIn 1 rfl (by decide) (by decide) (off := 56) rfl (tgt := 57) rfl ?_
    refine z_al0 (pc' := 58) 17 rfl rfl ?_
    refine z_il1 (pc' := 59) 18 rfl rfl ?_
    refine z_iconst (v := nI 1) (by decide) (pc' := 60) 19 rfl rfl ?_
    refine z_callV1 (pc' := 63) 20 rfl rfl k_Mo_75 (by first | exact pm_f | exact pm_1 | (rw [pm_o (by decide)]; first | assumption | exact zu_s)) (c_Mo_of1 hg) (by decide) (Nat.le_refl _) (Nat.le_refl _) rfl rfl (Nat.le_of_ble_eq_true rfl) ?_
    exact z_ireturn 21 rfl rfl (by first | rfl | exact zbo_nar) rfl rfl (by exact ⟨rfl, rfl⟩)
  · subst e
    show zMet G 1 M_Mo_factOf [.ref 88, .int (nI g), .int (-5)] n u _ n u _
    refine z_start (lv := [.ref 88, .int (nI g), .int (-5)]) K_Mo_factOf rfl rfl (Nat.le_refl _) (Nat.le_refl _) (Nat.le_of_ble_eq_true rfl) rfl ?_
    refine z_il2 (pc' := 1) 0 rfl rfl ?_
    refine z_tableIn 1 rfl (by decide) (by decide) (off := 63) rfl (tgt := 64) rfl ?_
    refine z_il1 (pc' := 65) 22 rfl rfl ?_
    exact z_ireturn 23 rfl rfl (by first | rfl | exact zbo_nar) rfl rfl (by exact ⟨rfl, rfl⟩)
  · rw [show mop c = nI (c - 100) from if_pos e, show vl (fct mo (fa g) (S 3 g) (S 2 g) g) c = c - 100 from if_pos e]
    refine z_start (lv := [.ref 88, .int (nI g), .int (nI (c - 100))]) K_Mo_factOf rfl rfl (Nat.le_refl _) (Nat.le_refl _) (Nat.le_of_ble_eq_true rfl) rfl ?_
    refine z_il2 (pc' := 1) 0 rfl rfl ?_
    refine z_tableOut 1 rfl (by rw [nI_toInt (by omega)]; omega) (tgt := 66) rfl ?_
    refine z_il2 (pc' := 67) 24 rfl rfl ?_
    exact z_ireturn 25 rfl rfl (by first | rfl | exact zbo_nar) rfl rfl (by exact ⟨rfl, rfl⟩)
set_option maxHeartbeats 4000000 in
set_option maxRecDepth 100000 in
theorem c_Mo_isSo {G : zG} {n u : Nat} {μ : Nat → va_E} {o a b : Nat} (h1 : 21 ≤ o) (h2 : o ≤ 23) (ha : a < 2 ^ 31) (hb : b < 2 ^ 31) : zMet G 0 M_Mo_isSo [.int (nI (o + 39)), .int (nI a), .int (nI b)] n u μ n u (zE (some (.int (zbo (cmB o a b = true)))) μ) := by
  refine z_start (lv := [.int (nI (o + 39)), .int (nI a), .int (nI b)]) K_Mo_isSo rfl rfl (Nat.le_refl _) (Nat.le_refl _) (Nat.le_of_ble_eq_true rfl) rfl ?_
  refine z_il0 (pc' := 1) 0 rfl rfl ?_
  refine z_bipush (v := nI 60) (by decide) (pc' := 3) 1 rfl rfl ?_
  first | refine z_icmp_neN (pc' := 6) 2 rfl rfl (tgt := 19) rfl (by omega) (by omega) (fun h3 => ?_) (fun h3 => ?_) | refine z_icmp_ne (pc' := 6) 2 rfl rfl (tgt := 19) rfl (fun h3 => ?_) (fun h3 => ?_)
  · refine z_il0 (pc' := 20) 10 rfl rfl ?_
    refine z_bipush (v := nI 61) (by decide) (pc' := 22) 11 rfl rfl ?_
    first | refine z_icmp_neN (pc' := 25) 12 rfl rfl (tgt := 38) rfl (by omega) (by omega) (fun h22 => ?_) (fun h22 => ?_) | refine z_icmp_ne (pc' := 25) 12 rfl rfl (tgt := 38) rfl (fun h22 => ?_) (fun h22 => ?_)
    · refine z_il1 (pc' := 39) 20 rfl rfl ?_
      refine z_il2 (pc' := 40) 21 rfl rfl ?_
      first | refine z_icmp_leN (pc' := 43) 22 rfl rfl (tgt := 47) rfl (by omega) (by omega) (fun h40 => ?_) (fun h40 => ?_) | refine z_icmp_le (pc' := 43) 22 rfl rfl (tgt := 47) rfl (fun h40 => ?_) (fun h40 => ?_)
      · refine z_iconst (v := nI 0) (by decide) (pc' := 48) 25 rfl rfl ?_
        exact z_ireturn 26 rfl rfl (by first | rfl | exact zbo_nar) rfl rfl (by refine ⟨?_, rfl⟩; rw [zbo_f (by unfold cmB; rw [if_neg (by omega), if_neg (by omega)]; simp; omega)])
      · refine z_iconst (v := nI 1) (by decide) (pc' := 44) 23 rfl rfl ?_
        refine z_goto 24 rfl (tgt := 48) rfl ?_
        exact z_ireturn 26 rfl rfl (by first | rfl | exact zbo_nar) rfl rfl (by refine ⟨?_, rfl⟩; rw [zbo_t (by unfold cmB; rw [if_neg (by omega), if_neg (by omega)]; simp; omega)])
    · refine z_il1 (pc' := 26) 13 rfl rfl ?_
      refine z_il2 (pc' := 27) 14 rfl rfl ?_
      first | refine z_icmp_neN (pc' := 30) 15 rfl rfl (tgt := 34) rfl (by omega) (by omega) (fun h27 => ?_) (fun h27 => ?_) | refine z_icmp_ne (pc' := 30) 15 rfl rfl (tgt := 34) rfl (fun h27 => ?_) (fun h27 => ?_)
      · refine z_iconst (v := nI 0) (by decide) (pc' := 35) 18 rfl rfl ?_
        refine z_goto 19 rfl (tgt := 48) rfl ?_
        exact z_ireturn 26 rfl rfl (by first | rfl | exact zbo_nar) rfl rfl (by refine ⟨?_, rfl⟩; rw [zbo_f (by unfold cmB; rw [if_neg (by omega), if_pos (by omega)]; simp; omega)])
      · refine z_iconst (v := nI 1) (by decide) (pc' := 31) 16 rfl rfl ?_
        refine z_goto 17 rfl (tgt := 48) rfl ?_
        exact z_ireturn 26 rfl rfl (by first | rfl | exact zbo_nar) rfl rfl (by refine ⟨?_, rfl⟩; rw [zbo_t (by unfold cmB; rw [if_neg (by omega), if_pos (by omega)]; simp; omega)])
  · refine z_il1 (pc' := 7) 3 rfl rfl ?_
    refine z_il2 (pc' := 8) 4 rfl rfl ?_
    first | refine z_icmp_geN (pc' := 11) 5 rfl rfl (tgt := 15) rfl (by omega) (by omega) (fun h8 => ?_) (fun h8 => ?_) | refine z_icmp_ge (pc' := 11) 5 rfl rfl (tgt := 15) rfl (fun h8 => ?_) (fun h8 => ?_)
    · refine z_iconst (v := nI 0) (by decide) (pc' := 16) 8 rfl rfl ?_
      refine z_goto 9 rfl (tgt := 48) rfl ?_
      exact z_ireturn 26 rfl rfl (by first | rfl | exact zbo_nar) rfl rfl (by refine ⟨?_, rfl⟩; rw [zbo_f (by unfold cmB; rw [if_pos (by omega)]; simp; omega)])
    · refine z_iconst (v := nI 1) (by decide) (pc' := 12) 6 rfl rfl ?_
      refine z_goto 7 rfl (tgt := 48) rfl ?_
      exact z_ireturn 26 rfl rfl (by first | rfl | exact zbo_nar) rfl rfl (by refine ⟨?_, rfl⟩; rw [zbo_t (by unfold cmB; rw [if_pos (by omega)]; simp; omega)])
/-! ===== conditions on the reference's pile ===== -/
def dpI : zI → Nat → Nat
  | [], k => k
  | (o, _, _) :: t, k => if o = 12 then dpI t k else if o < 21 then dpI t (k - 1) else dpI t (k + 1)
def sgM (ρ : Nat → Int32) : Nat → zI → Nat → Prop
  | b, [], e => b = e
  | b, (o, l, r) :: t, e => if o = 12 then ρ (118 + b) = nI 17 ∧ sgM ρ (b + 1) t e else if o = 11 then ρ (118 + b) = nI 16 ∧ sgM ρ (b + 1) t e else if o = 10 then ρ (118 + b) = nI 15 ∧ sgM ρ (b + 1) t e
    else ρ (118 + b) = nI (o + 39) ∧ ρ (118 + b + 1) = mop l ∧ ρ (118 + b + 2) = mop r ∧ sgM ρ (b + 3) t e
theorem sgM_le {ρ : Nat → Int32} : ∀ (t : zI) (b e : Nat), sgM ρ b t e → b ≤ e
  | [], b, e, h => Nat.le_of_eq h
  | (o, l, r) :: t, b, e, h => by
    unfold sgM at h
    split at h
    · have := sgM_le t _ _ h.2; omega
    · split at h
      · have := sgM_le t _ _ h.2; omega
      · split at h
        · have := sgM_le t _ _ h.2; omega
        · have := sgM_le t _ _ h.2.2.2; omega
abbrev bI (b : Bool) : Int32 := zbo (b = true)
/-- the pile's lowest places hold the stack, its top last -/
def plk : (Nat → Int32) → List Bool → Prop
  | _, [] => True
  | f, b :: s => f s.length = bI b ∧ plk f s
theorem plk_up {f : Nat → Int32} {k : Nat} {x : Int32} : ∀ {s : List Bool}, s.length ≤ k → plk f s → plk (upd f k x) s
  | [], _, _ => trivial
  | b :: s, h, q => by
    simp at h
    exact ⟨by rw [upd_no (by omega)]; exact q.1, plk_up (by omega) q.2⟩
theorem plk_push {f : Nat → Int32} {b : Bool} {s : List Bool} (q : plk f s) : plk (upd f s.length (bI b)) (b :: s) := ⟨upd_at, plk_up (Nat.le_refl _) q⟩
theorem plk_bot {f : Nat → Int32} : ∀ {s : List Bool}, s.length = 1 → plk f s → f 0 = bI (tpB s)
  | [b], _, q => q.1
theorem ev_len {f : Nat → Nat} : ∀ (t : zI) (s : List Bool), okI t s.length → (evB f t s).length = dpI t s.length
  | [], s, _ => rfl
  | (o, l, r) :: t, s, h => by
    rcases h with ⟨rfl, h1, h⟩ | ⟨ho, h1, h⟩ | ⟨h1, h2, -, -, -, h⟩
    · match s, h1, h with
      | b :: s', _, h =>
        show (evB f t ((!b) :: s')).length = dpI t (b :: s').length
        exact ev_len t ((!b) :: s') h
    · match s, h1, h with
      | b :: a :: s', _, h =>
        rcases ho with rfl | rfl
        · exact ev_len t ((a || b) :: s') h
        · exact ev_len t ((a && b) :: s') h
    · have e1 : evB f ((o, l, r) :: t) s = evB f t (cmB o (vl f l) (vl f r) :: s) := by simp only [evB, if_neg (show ¬ o = 12 by omega), if_neg (show ¬ o = 11 by omega), if_neg (show ¬ o = 10 by omega)]
      have e2 : dpI ((o, l, r) :: t) s.length = dpI t (s.length + 1) := by simp only [dpI, if_neg (show ¬ o = 12 by omega), if_neg (show ¬ o < 21 by omega)]
      rw [e1, e2]
      exact ev_len t _ h
set_option maxHeartbeats 4000000 in
set_option maxRecDepth 100000 in
theorem l_Mo_isHolding {G : zG} {n u : Nat} {ν : Nat → va_E} {s : Nat → Int32} {S : Nat → Nat → Nat} {mo : Nat} {pr fa : Nat → Nat} {sc ch : Int32} {rc : Nat} {ρ : Nat → Int32} (hi : iS S) {g rl e : Nat} (hg : g < 6) (hm : mo ≤ 16) (hf9 : fa g ≤ 9) (he : e ≤ 500) : ∀ (its : zI) (b : Nat) (s0 : List Bool) (q : Nat → Int32), sgM ρ b its e → okI its s0.length → dpI its s0.length = 1 → plk q s0 → s0.length ≤ 10 →
    zW G 2 M_Mo_isHolding 42 [.ref 88, .int (nI g), .int (nI rl), .int (nI s0.length), .int (nI (118 + b)), .int (nI (118 + e)), .int (nI 0), .retAddr 0] [] n u (pm (zu ν 93 (.inl (1, 100, .inl q))) s (mk S mo pr fa sc ch rc ρ)) n u (zS (some (.int (zbo (tpB (evB (fct mo (fa g) (S 3 g) (S 2 g) g) its s0) = true)))) (fun q9 : Nat → Int32 => pm (zu ν 93 (.inl (1, 100, .inl q9))) s (mk S mo pr fa sc ch rc ρ)))
  | [], b, s0, q, hs, hok, hd, hp, hs10 => by
    have hb : b = e := hs
    have hq0 : q 0 = bI (tpB s0) := plk_bot (by simpa [dpI] using hd) hp
    refine z_il4 (pc' := 44) 27 rfl rfl ?_
    refine z_il5 (pc' := 46) 28 rfl rfl ?_
    first | refine z_icmp_geN (pc' := 49) 29 rfl rfl (tgt := 234) rfl (by omega) (by omega) (fun h46 => ?_) (fun h46 => ?_) | refine z_icmp_ge (pc' := 49) 29 rfl rfl (tgt := 234) rfl (fun h46 => ?_) (fun h46 => ?_)
    · refine z_il6 (pc' := 236) 132 rfl rfl ?_
      refine z_if_ne_f (pc' := 239) 133 rfl rfl (tgt := 248) rfl rfl ?_
      refine z_al0 (pc' := 240) 134 rfl rfl ?_
      refine z_getf (pc' := 243) 135 rfl rfl f_Mo_22_12 (by first | exact pm_f | exact pm_1 | (rw [pm_o (by decide)]; exact zu_s)) (by rfl) ?_
      refine z_iconst (v := nI 0) (by decide) (pc' := 244) 136 rfl rfl ?_
      refine z_zald (pc' := 245) 137 rfl rfl (by first | exact pm_f | exact pm_1 | (rw [pm_o (by decide)]; exact zu_s)) (by omega) (by decide) ?_
      rw [hq0]
      first | refine z_if_eqB (pc' := 248) 138 rfl rfl (tgt := 252) rfl (fun h245 => ?_) (fun h245 => ?_) | refine z_if_eqN (pc' := 248) 138 rfl rfl (tgt := 252) rfl (by omega) (fun h245 => ?_) (fun h245 => ?_) | refine z_if_eq (pc' := 248) 138 rfl rfl (tgt := 252) rfl (fun h245 => ?_) (fun h245 => ?_)
      · refine z_iconst (v := nI 0) (by decide) (pc' := 253) 141 rfl rfl ?_
        exact z_ireturn 142 rfl rfl (by first | rfl | exact zbo_nar) rfl rfl (by refine ⟨?_, q, rfl⟩; rw [zbo_f (show ¬ tpB (evB (fct mo (fa g) (S 3 g) (S 2 g) g) [] s0) = true from h245)])
      · refine z_iconst (v := nI 1) (by decide) (pc' := 249) 139 rfl rfl ?_
        refine z_goto 140 rfl (tgt := 253) rfl ?_
        exact z_ireturn 142 rfl rfl (by first | rfl | exact zbo_nar) rfl rfl (by refine ⟨?_, q, rfl⟩; rw [zbo_t (show tpB (evB (fct mo (fa g) (S 3 g) (S 2 g) g) [] s0) = true from h245)])
    · exfalso; omega
  | (o, l, r) :: t, b, s0, q, hs, hok, hd, hp, hs10 => by
    rcases hok with ⟨rfl, ho1, hok⟩ | ⟨ho, ho1, hok⟩ | ⟨ho1, ho2, hol, hor, ho3, hok⟩
    · rw [sgM, if_pos rfl] at hs
      obtain ⟨hb1, hs2⟩ := hs
      have hle := sgM_le _ _ _ hs2
      match s0, ho1, hok, hp, hs10, hd with
      | b1 :: s1, _, hok, hp, hs10, hd =>
        have hs11 : s1.length + 1 ≤ 10 := hs10
        rw [List.length_cons]
        cases b1
        · show zW G 2 M_Mo_isHolding 42 _ _ n u _ n u (zS (some (.int (zbo (tpB (evB (fct mo (fa g) (S 3 g) (S 2 g) g) t (true :: s1)) = true)))) (fun q9 : Nat → Int32 => pm (zu ν 93 (.inl (1, 100, .inl q9))) s (mk S mo pr fa sc ch rc ρ)))
          refine z_il4 (pc' := 44) 27 rfl rfl ?_
          refine z_il5 (pc' := 46) 28 rfl rfl ?_
          first | refine z_icmp_geN (pc' := 49) 29 rfl rfl (tgt := 234) rfl (by omega) (by omega) (fun h46 => ?_) (fun h46 => ?_) | refine z_icmp_ge (pc' := 49) 29 rfl rfl (tgt := 234) rfl (fun h46 => ?_) (fun h46 => ?_)
          · exfalso; omega
          · refine z_al0 (pc' := 50) 30 rfl rfl ?_
            refine z_getf (pc' := 53) 31 rfl rfl f_Mo_9_12 (by first | exact pm_f | exact pm_1 | (rw [pm_o (by decide)]; exact zu_s)) (by rfl) ?_
            refine z_il4 (pc' := 55) 32 rfl rfl ?_
            refine z_iald (pc' := 56) 33 rfl rfl (by first | exact pm_f | exact pm_1 | (rw [pm_o (by decide)]; exact zu_s)) (by omega) (by decide) ?_
            rw [mk_s (by omega), hb1]
            refine z_is7 rfl rfl (pc' := 58) 34 rfl rfl ?_
            refine z_il7 (pc' := 60) 35 rfl rfl ?_
            refine z_bipush (v := nI 17) (by decide) (pc' := 62) 36 rfl rfl ?_
            refine z_icmp_ne_f (pc' := 65) 37 rfl rfl (tgt := 95) rfl rfl ?_
            refine z_al0 (pc' := 66) 38 rfl rfl ?_
            refine z_getf (pc' := 69) 39 rfl rfl f_Mo_22_12 (by first | exact pm_f | exact pm_1 | (rw [pm_o (by decide)]; exact zu_s)) (by rfl) ?_
            refine z_il3 (pc' := 70) 40 rfl rfl ?_
            refine z_iconst (v := nI 1) (by decide) (pc' := 71) 41 rfl rfl ?_
            first | refine z_isubN (by omega) (pc' := 72) 42 rfl rfl ?_ | refine z_isub (pc' := 72) 42 rfl rfl ?_
            rw [Nat.add_sub_cancel]
            refine z_al0 (pc' := 73) 43 rfl rfl ?_
            refine z_getf (pc' := 76) 44 rfl rfl f_Mo_22_12 (by first | exact pm_f | exact pm_1 | (rw [pm_o (by decide)]; exact zu_s)) (by rfl) ?_
            refine z_il3 (pc' := 77) 45 rfl rfl ?_
            refine z_iconst (v := nI 1) (by decide) (pc' := 78) 46 rfl rfl ?_
            first | refine z_isubN (by omega) (pc' := 79) 47 rfl rfl ?_ | refine z_isub (pc' := 79) 47 rfl rfl ?_
            rw [Nat.add_sub_cancel]
            refine z_zald (pc' := 80) 48 rfl rfl (by first | exact pm_f | exact pm_1 | (rw [pm_o (by decide)]; exact zu_s)) (by omega) (by decide) ?_
            rw [hp.1]
            refine z_if_ne_f (pc' := 83) 49 rfl rfl (tgt := 87) rfl rfl ?_
            refine z_iconst (v := nI 1) (by decide) (pc' := 84) 50 rfl rfl ?_
            refine z_goto 51 rfl (tgt := 88) rfl ?_
            refine z_zast (pc' := 89) 53 rfl rfl (by first | exact pm_f | exact pm_1 | (rw [pm_o (by decide)]; exact zu_s)) (by omega) (by decide) (by rfl) ?_
            rw [pm_out (by decide), zu_zu]
            first | refine z_inc4N rfl rfl (pc' := 92) 54 rfl rfl ?_ | refine z_inc4 rfl rfl rfl (pc' := 92) 54 rfl rfl ?_
            refine z_goto 55 rfl (tgt := 231) rfl ?_
            refine z_goto 131 rfl (tgt := 42) rfl ?_
            refine z_less7 ?_
            exact l_Mo_isHolding hi hg hm hf9 he t _ (true :: s1) _ hs2 (hok) (hd) (plk_push (b := true) hp.2) (hs10)
        · show zW G 2 M_Mo_isHolding 42 _ _ n u _ n u (zS (some (.int (zbo (tpB (evB (fct mo (fa g) (S 3 g) (S 2 g) g) t (false :: s1)) = true)))) (fun q9 : Nat → Int32 => pm (zu ν 93 (.inl (1, 100, .inl q9))) s (mk S mo pr fa sc ch rc ρ)))
          refine z_il4 (pc' := 44) 27 rfl rfl ?_
          refine z_il5 (pc' := 46) 28 rfl rfl ?_
          first | refine z_icmp_geN (pc' := 49) 29 rfl rfl (tgt := 234) rfl (by omega) (by omega) (fun h46 => ?_) (fun h46 => ?_) | refine z_icmp_ge (pc' := 49) 29 rfl rfl (tgt := 234) rfl (fun h46 => ?_) (fun h46 => ?_)
          · exfalso; omega
          · refine z_al0 (pc' := 50) 30 rfl rfl ?_
            refine z_getf (pc' := 53) 31 rfl rfl f_Mo_9_12 (by first | exact pm_f | exact pm_1 | (rw [pm_o (by decide)]; exact zu_s)) (by rfl) ?_
            refine z_il4 (pc' := 55) 32 rfl rfl ?_
            refine z_iald (pc' := 56) 33 rfl rfl (by first | exact pm_f | exact pm_1 | (rw [pm_o (by decide)]; exact zu_s)) (by omega) (by decide) ?_
            rw [mk_s (by omega), hb1]
            refine z_is7 rfl rfl (pc' := 58) 34 rfl rfl ?_
            refine z_il7 (pc' := 60) 35 rfl rfl ?_
            refine z_bipush (v := nI 17) (by decide) (pc' := 62) 36 rfl rfl ?_
            refine z_icmp_ne_f (pc' := 65) 37 rfl rfl (tgt := 95) rfl rfl ?_
            refine z_al0 (pc' := 66) 38 rfl rfl ?_
            refine z_getf (pc' := 69) 39 rfl rfl f_Mo_22_12 (by first | exact pm_f | exact pm_1 | (rw [pm_o (by decide)]; exact zu_s)) (by rfl) ?_
            refine z_il3 (pc' := 70) 40 rfl rfl ?_
            refine z_iconst (v := nI 1) (by decide) (pc' := 71) 41 rfl rfl ?_
            first | refine z_isubN (by omega) (pc' := 72) 42 rfl rfl ?_ | refine z_isub (pc' := 72) 42 rfl rfl ?_
            rw [Nat.add_sub_cancel]
            refine z_al0 (pc' := 73) 43 rfl rfl ?_
            refine z_getf (pc' := 76) 44 rfl rfl f_Mo_22_12 (by first | exact pm_f | exact pm_1 | (rw [pm_o (by decide)]; exact zu_s)) (by rfl) ?_
            refine z_il3 (pc' := 77) 45 rfl rfl ?_
            refine z_iconst (v := nI 1) (by decide) (pc' := 78) 46 rfl rfl ?_
            first | refine z_isubN (by omega) (pc' := 79) 47 rfl rfl ?_ | refine z_isub (pc' := 79) 47 rfl rfl ?_
            rw [Nat.add_sub_cancel]
            refine z_zald (pc' := 80) 48 rfl rfl (by first | exact pm_f | exact pm_1 | (rw [pm_o (by decide)]; exact zu_s)) (by omega) (by decide) ?_
            rw [hp.1]
            refine z_if_ne_t 49 rfl (tgt := 87) rfl (show ¬ _ = (0 : Int32) from by decide) ?_
            refine z_iconst (v := nI 0) (by decide) (pc' := 88) 52 rfl rfl ?_
            refine z_zast (pc' := 89) 53 rfl rfl (by first | exact pm_f | exact pm_1 | (rw [pm_o (by decide)]; exact zu_s)) (by omega) (by decide) (by rfl) ?_
            rw [pm_out (by decide), zu_zu]
            first | refine z_inc4N rfl rfl (pc' := 92) 54 rfl rfl ?_ | refine z_inc4 rfl rfl rfl (pc' := 92) 54 rfl rfl ?_
            refine z_goto 55 rfl (tgt := 231) rfl ?_
            refine z_goto 131 rfl (tgt := 42) rfl ?_
            refine z_less7 ?_
            exact l_Mo_isHolding hi hg hm hf9 he t _ (false :: s1) _ hs2 (hok) (hd) (plk_push (b := false) hp.2) (hs10)
    · match s0, ho1, hok, hp, hs10, hd with
      | b1 :: a1 :: s1, _, hok, hp, hs10, hd =>
        have hs11 : s1.length + 1 + 1 ≤ 10 := hs10
        rw [List.length_cons, List.length_cons]
        rcases ho with rfl | rfl
        · rw [sgM, if_neg (by decide), if_neg (by decide), if_pos rfl] at hs
          obtain ⟨hb1, hs2⟩ := hs
          have hle := sgM_le _ _ _ hs2
          cases a1 <;> cases b1
          · show zW G 2 M_Mo_isHolding 42 _ _ n u _ n u (zS (some (.int (zbo (tpB (evB (fct mo (fa g) (S 3 g) (S 2 g) g) t (false :: s1)) = true)))) (fun q9 : Nat → Int32 => pm (zu ν 93 (.inl (1, 100, .inl q9))) s (mk S mo pr fa sc ch rc ρ)))
            refine z_il4 (pc' := 44) 27 rfl rfl ?_
            refine z_il5 (pc' := 46) 28 rfl rfl ?_
            first | refine z_icmp_geN (pc' := 49) 29 rfl rfl (tgt := 234) rfl (by omega) (by omega) (fun h46 => ?_) (fun h46 => ?_) | refine z_icmp_ge (pc' := 49) 29 rfl rfl (tgt := 234) rfl (fun h46 => ?_) (fun h46 => ?_)
            · exfalso; omega
            · refine z_al0 (pc' := 50) 30 rfl rfl ?_
              refine z_getf (pc' := 53) 31 rfl rfl f_Mo_9_12 (by first | exact pm_f | exact pm_1 | (rw [pm_o (by decide)]; exact zu_s)) (by rfl) ?_
              refine z_il4 (pc' := 55) 32 rfl rfl ?_
              refine z_iald (pc' := 56) 33 rfl rfl (by first | exact pm_f | exact pm_1 | (rw [pm_o (by decide)]; exact zu_s)) (by omega) (by decide) ?_
              rw [mk_s (by omega), hb1]
              refine z_is7 rfl rfl (pc' := 58) 34 rfl rfl ?_
              refine z_il7 (pc' := 60) 35 rfl rfl ?_
              refine z_bipush (v := nI 17) (by decide) (pc' := 62) 36 rfl rfl ?_
              refine z_icmp_ne_t 37 rfl (tgt := 95) rfl (fun z => by have := (nI_eq (by omega) (by omega)).mp z; omega) ?_
              refine z_il7 (pc' := 97) 56 rfl rfl ?_
              refine z_bipush (v := nI 16) (by decide) (pc' := 99) 57 rfl rfl ?_
              refine z_icmp_eq_f (pc' := 102) 58 rfl rfl (tgt := 109) rfl (fun z => by have := (nI_eq (by omega) (by omega)).mp z; omega) ?_
              refine z_il7 (pc' := 104) 59 rfl rfl ?_
              refine z_bipush (v := nI 15) (by decide) (pc' := 106) 60 rfl rfl ?_
              refine z_icmp_ne_f (pc' := 109) 61 rfl rfl (tgt := 186) rfl rfl ?_
              refine z_inc3 rfl rfl (nI_dec _) (pc' := 112) 62 rfl rfl ?_
              refine z_al0 (pc' := 113) 63 rfl rfl ?_
              refine z_getf (pc' := 116) 64 rfl rfl f_Mo_22_12 (by first | exact pm_f | exact pm_1 | (rw [pm_o (by decide)]; exact zu_s)) (by rfl) ?_
              refine z_il3 (pc' := 117) 65 rfl rfl ?_
              refine z_iconst (v := nI 1) (by decide) (pc' := 118) 66 rfl rfl ?_
              first | refine z_isubN (by omega) (pc' := 119) 67 rfl rfl ?_ | refine z_isub (pc' := 119) 67 rfl rfl ?_
              rw [Nat.add_sub_cancel]
              refine z_il7 (pc' := 121) 68 rfl rfl ?_
              refine z_bipush (v := nI 16) (by decide) (pc' := 123) 69 rfl rfl ?_
              refine z_icmp_ne_t 70 rfl (tgt := 154) rfl (fun z => by have := (nI_eq (by omega) (by omega)).mp z; omega) ?_
              refine z_al0 (pc' := 155) 87 rfl rfl ?_
              refine z_getf (pc' := 158) 88 rfl rfl f_Mo_22_12 (by first | exact pm_f | exact pm_1 | (rw [pm_o (by decide)]; exact zu_s)) (by rfl) ?_
              refine z_il3 (pc' := 159) 89 rfl rfl ?_
              refine z_iconst (v := nI 1) (by decide) (pc' := 160) 90 rfl rfl ?_
              first | refine z_isubN (by omega) (pc' := 161) 91 rfl rfl ?_ | refine z_isub (pc' := 161) 91 rfl rfl ?_
              rw [Nat.add_sub_cancel]
              refine z_zald (pc' := 162) 92 rfl rfl (by first | exact pm_f | exact pm_1 | (rw [pm_o (by decide)]; exact zu_s)) (by omega) (by decide) ?_
              rw [hp.2.1]
              refine z_if_ne_f (pc' := 165) 93 rfl rfl (tgt := 174) rfl rfl ?_
              refine z_al0 (pc' := 166) 94 rfl rfl ?_
              refine z_getf (pc' := 169) 95 rfl rfl f_Mo_22_12 (by first | exact pm_f | exact pm_1 | (rw [pm_o (by decide)]; exact zu_s)) (by rfl) ?_
              refine z_il3 (pc' := 170) 96 rfl rfl ?_
              refine z_zald (pc' := 171) 97 rfl rfl (by first | exact pm_f | exact pm_1 | (rw [pm_o (by decide)]; exact zu_s)) (by omega) (by decide) ?_
              rw [show q (s1.length + 1) = _ from hp.1]
              refine z_if_eq_t 98 rfl (tgt := 178) rfl rfl ?_
              refine z_iconst (v := nI 0) (by decide) (pc' := 179) 101 rfl rfl ?_
              refine z_zast (pc' := 180) 102 rfl rfl (by first | exact pm_f | exact pm_1 | (rw [pm_o (by decide)]; exact zu_s)) (by omega) (by decide) (by rfl) ?_
              rw [pm_out (by decide), zu_zu]
              first | refine z_inc4N rfl rfl (pc' := 183) 103 rfl rfl ?_ | refine z_inc4 rfl rfl rfl (pc' := 183) 103 rfl rfl ?_
              refine z_goto 104 rfl (tgt := 231) rfl ?_
              refine z_goto 131 rfl (tgt := 42) rfl ?_
              refine z_less7 ?_
              exact l_Mo_isHolding hi hg hm hf9 he t _ (false :: s1) _ hs2 (hok) (hd) (plk_push (b := false) hp.2.2) (Nat.le_of_succ_le hs11)
          · show zW G 2 M_Mo_isHolding 42 _ _ n u _ n u (zS (some (.int (zbo (tpB (evB (fct mo (fa g) (S 3 g) (S 2 g) g) t (true :: s1)) = true)))) (fun q9 : Nat → Int32 => pm (zu ν 93 (.inl (1, 100, .inl q9))) s (mk S mo pr fa sc ch rc ρ)))
            refine z_il4 (pc' := 44) 27 rfl rfl ?_
            refine z_il5 (pc' := 46) 28 rfl rfl ?_
            first | refine z_icmp_geN (pc' := 49) 29 rfl rfl (tgt := 234) rfl (by omega) (by omega) (fun h46 => ?_) (fun h46 => ?_) | refine z_icmp_ge (pc' := 49) 29 rfl rfl (tgt := 234) rfl (fun h46 => ?_) (fun h46 => ?_)
            · exfalso; omega
            · refine z_al0 (pc' := 50) 30 rfl rfl ?_
              refine z_getf (pc' := 53) 31 rfl rfl f_Mo_9_12 (by first | exact pm_f | exact pm_1 | (rw [pm_o (by decide)]; exact zu_s)) (by rfl) ?_
              refine z_il4 (pc' := 55) 32 rfl rfl ?_
              refine z_iald (pc' := 56) 33 rfl rfl (by first | exact pm_f | exact pm_1 | (rw [pm_o (by decide)]; exact zu_s)) (by omega) (by decide) ?_
              rw [mk_s (by omega), hb1]
              refine z_is7 rfl rfl (pc' := 58) 34 rfl rfl ?_
              refine z_il7 (pc' := 60) 35 rfl rfl ?_
              refine z_bipush (v := nI 17) (by decide) (pc' := 62) 36 rfl rfl ?_
              refine z_icmp_ne_t 37 rfl (tgt := 95) rfl (fun z => by have := (nI_eq (by omega) (by omega)).mp z; omega) ?_
              refine z_il7 (pc' := 97) 56 rfl rfl ?_
              refine z_bipush (v := nI 16) (by decide) (pc' := 99) 57 rfl rfl ?_
              refine z_icmp_eq_f (pc' := 102) 58 rfl rfl (tgt := 109) rfl (fun z => by have := (nI_eq (by omega) (by omega)).mp z; omega) ?_
              refine z_il7 (pc' := 104) 59 rfl rfl ?_
              refine z_bipush (v := nI 15) (by decide) (pc' := 106) 60 rfl rfl ?_
              refine z_icmp_ne_f (pc' := 109) 61 rfl rfl (tgt := 186) rfl rfl ?_
              refine z_inc3 rfl rfl (nI_dec _) (pc' := 112) 62 rfl rfl ?_
              refine z_al0 (pc' := 113) 63 rfl rfl ?_
              refine z_getf (pc' := 116) 64 rfl rfl f_Mo_22_12 (by first | exact pm_f | exact pm_1 | (rw [pm_o (by decide)]; exact zu_s)) (by rfl) ?_
              refine z_il3 (pc' := 117) 65 rfl rfl ?_
              refine z_iconst (v := nI 1) (by decide) (pc' := 118) 66 rfl rfl ?_
              first | refine z_isubN (by omega) (pc' := 119) 67 rfl rfl ?_ | refine z_isub (pc' := 119) 67 rfl rfl ?_
              rw [Nat.add_sub_cancel]
              refine z_il7 (pc' := 121) 68 rfl rfl ?_
              refine z_bipush (v := nI 16) (by decide) (pc' := 123) 69 rfl rfl ?_
              refine z_icmp_ne_t 70 rfl (tgt := 154) rfl (fun z => by have := (nI_eq (by omega) (by omega)).mp z; omega) ?_
              refine z_al0 (pc' := 155) 87 rfl rfl ?_
              refine z_getf (pc' := 158) 88 rfl rfl f_Mo_22_12 (by first | exact pm_f | exact pm_1 | (rw [pm_o (by decide)]; exact zu_s)) (by rfl) ?_
              refine z_il3 (pc' := 159) 89 rfl rfl ?_
              refine z_iconst (v := nI 1) (by decide) (pc' := 160) 90 rfl rfl ?_
              first | refine z_isubN (by omega) (pc' := 161) 91 rfl rfl ?_ | refine z_isub (pc' := 161) 91 rfl rfl ?_
              rw [Nat.add_sub_cancel]
              refine z_zald (pc' := 162) 92 rfl rfl (by first | exact pm_f | exact pm_1 | (rw [pm_o (by decide)]; exact zu_s)) (by omega) (by decide) ?_
              rw [hp.2.1]
              refine z_if_ne_f (pc' := 165) 93 rfl rfl (tgt := 174) rfl rfl ?_
              refine z_al0 (pc' := 166) 94 rfl rfl ?_
              refine z_getf (pc' := 169) 95 rfl rfl f_Mo_22_12 (by first | exact pm_f | exact pm_1 | (rw [pm_o (by decide)]; exact zu_s)) (by rfl) ?_
              refine z_il3 (pc' := 170) 96 rfl rfl ?_
              refine z_zald (pc' := 171) 97 rfl rfl (by first | exact pm_f | exact pm_1 | (rw [pm_o (by decide)]; exact zu_s)) (by omega) (by decide) ?_
              rw [show q (s1.length + 1) = _ from hp.1]
              refine z_if_eq_f (pc' := 174) 98 rfl rfl (tgt := 178) rfl (show ¬ _ = (0 : Int32) from by decide) ?_
              refine z_iconst (v := nI 1) (by decide) (pc' := 175) 99 rfl rfl ?_
              refine z_goto 100 rfl (tgt := 179) rfl ?_
              refine z_zast (pc' := 180) 102 rfl rfl (by first | exact pm_f | exact pm_1 | (rw [pm_o (by decide)]; exact zu_s)) (by omega) (by decide) (by rfl) ?_
              rw [pm_out (by decide), zu_zu]
              first | refine z_inc4N rfl rfl (pc' := 183) 103 rfl rfl ?_ | refine z_inc4 rfl rfl rfl (pc' := 183) 103 rfl rfl ?_
              refine z_goto 104 rfl (tgt := 231) rfl ?_
              refine z_goto 131 rfl (tgt := 42) rfl ?_
              refine z_less7 ?_
              exact l_Mo_isHolding hi hg hm hf9 he t _ (true :: s1) _ hs2 (hok) (hd) (plk_push (b := true) hp.2.2) (Nat.le_of_succ_le hs11)
          · show zW G 2 M_Mo_isHolding 42 _ _ n u _ n u (zS (some (.int (zbo (tpB (evB (fct mo (fa g) (S 3 g) (S 2 g) g) t (true :: s1)) = true)))) (fun q9 : Nat → Int32 => pm (zu ν 93 (.inl (1, 100, .inl q9))) s (mk S mo pr fa sc ch rc ρ)))
            refine z_il4 (pc' := 44) 27 rfl rfl ?_
            refine z_il5 (pc' := 46) 28 rfl rfl ?_
            first | refine z_icmp_geN (pc' := 49) 29 rfl rfl (tgt := 234) rfl (by omega) (by omega) (fun h46 => ?_) (fun h46 => ?_) | refine z_icmp_ge (pc' := 49) 29 rfl rfl (tgt := 234) rfl (fun h46 => ?_) (fun h46 => ?_)
            · exfalso; omega
            · refine z_al0 (pc' := 50) 30 rfl rfl ?_
              refine z_getf (pc' := 53) 31 rfl rfl f_Mo_9_12 (by first | exact pm_f | exact pm_1 | (rw [pm_o (by decide)]; exact zu_s)) (by rfl) ?_
              refine z_il4 (pc' := 55) 32 rfl rfl ?_
              refine z_iald (pc' := 56) 33 rfl rfl (by first | exact pm_f | exact pm_1 | (rw [pm_o (by decide)]; exact zu_s)) (by omega) (by decide) ?_
              rw [mk_s (by omega), hb1]
              refine z_is7 rfl rfl (pc' := 58) 34 rfl rfl ?_
              refine z_il7 (pc' := 60) 35 rfl rfl ?_
              refine z_bipush (v := nI 17) (by decide) (pc' := 62) 36 rfl rfl ?_
              refine z_icmp_ne_t 37 rfl (tgt := 95) rfl (fun z => by have := (nI_eq (by omega) (by omega)).mp z; omega) ?_
              refine z_il7 (pc' := 97) 56 rfl rfl ?_
              refine z_bipush (v := nI 16) (by decide) (pc' := 99) 57 rfl rfl ?_
              refine z_icmp_eq_f (pc' := 102) 58 rfl rfl (tgt := 109) rfl (fun z => by have := (nI_eq (by omega) (by omega)).mp z; omega) ?_
              refine z_il7 (pc' := 104) 59 rfl rfl ?_
              refine z_bipush (v := nI 15) (by decide) (pc' := 106) 60 rfl rfl ?_
              refine z_icmp_ne_f (pc' := 109) 61 rfl rfl (tgt := 186) rfl rfl ?_
              refine z_inc3 rfl rfl (nI_dec _) (pc' := 112) 62 rfl rfl ?_
              refine z_al0 (pc' := 113) 63 rfl rfl ?_
              refine z_getf (pc' := 116) 64 rfl rfl f_Mo_22_12 (by first | exact pm_f | exact pm_1 | (rw [pm_o (by decide)]; exact zu_s)) (by rfl) ?_
              refine z_il3 (pc' := 117) 65 rfl rfl ?_
              refine z_iconst (v := nI 1) (by decide) (pc' := 118) 66 rfl rfl ?_
              first | refine z_isubN (by omega) (pc' := 119) 67 rfl rfl ?_ | refine z_isub (pc' := 119) 67 rfl rfl ?_
              rw [Nat.add_sub_cancel]
              refine z_il7 (pc' := 121) 68 rfl rfl ?_
              refine z_bipush (v := nI 16) (by decide) (pc' := 123) 69 rfl rfl ?_
              refine z_icmp_ne_t 70 rfl (tgt := 154) rfl (fun z => by have := (nI_eq (by omega) (by omega)).mp z; omega) ?_
              refine z_al0 (pc' := 155) 87 rfl rfl ?_
              refine z_getf (pc' := 158) 88 rfl rfl f_Mo_22_12 (by first | exact pm_f | exact pm_1 | (rw [pm_o (by decide)]; exact zu_s)) (by rfl) ?_
              refine z_il3 (pc' := 159) 89 rfl rfl ?_
              refine z_iconst (v := nI 1) (by decide) (pc' := 160) 90 rfl rfl ?_
              first | refine z_isubN (by omega) (pc' := 161) 91 rfl rfl ?_ | refine z_isub (pc' := 161) 91 rfl rfl ?_
              rw [Nat.add_sub_cancel]
              refine z_zald (pc' := 162) 92 rfl rfl (by first | exact pm_f | exact pm_1 | (rw [pm_o (by decide)]; exact zu_s)) (by omega) (by decide) ?_
              rw [hp.2.1]
              refine z_if_ne_t 93 rfl (tgt := 174) rfl (show ¬ _ = (0 : Int32) from by decide) ?_
              refine z_iconst (v := nI 1) (by decide) (pc' := 175) 99 rfl rfl ?_
              refine z_goto 100 rfl (tgt := 179) rfl ?_
              refine z_zast (pc' := 180) 102 rfl rfl (by first | exact pm_f | exact pm_1 | (rw [pm_o (by decide)]; exact zu_s)) (by omega) (by decide) (by rfl) ?_
              rw [pm_out (by decide), zu_zu]
              first | refine z_inc4N rfl rfl (pc' := 183) 103 rfl rfl ?_ | refine z_inc4 rfl rfl rfl (pc' := 183) 103 rfl rfl ?_
              refine z_goto 104 rfl (tgt := 231) rfl ?_
              refine z_goto 131 rfl (tgt := 42) rfl ?_
              refine z_less7 ?_
              exact l_Mo_isHolding hi hg hm hf9 he t _ (true :: s1) _ hs2 (hok) (hd) (plk_push (b := true) hp.2.2) (Nat.le_of_succ_le hs11)
          · show zW G 2 M_Mo_isHolding 42 _ _ n u _ n u (zS (some (.int (zbo (tpB (evB (fct mo (fa g) (S 3 g) (S 2 g) g) t (true :: s1)) = true)))) (fun q9 : Nat → Int32 => pm (zu ν 93 (.inl (1, 100, .inl q9))) s (mk S mo pr fa sc ch rc ρ)))
            refine z_il4 (pc' := 44) 27 rfl rfl ?_
            refine z_il5 (pc' := 46) 28 rfl rfl ?_
            first | refine z_icmp_geN (pc' := 49) 29 rfl rfl (tgt := 234) rfl (by omega) (by omega) (fun h46 => ?_) (fun h46 => ?_) | refine z_icmp_ge (pc' := 49) 29 rfl rfl (tgt := 234) rfl (fun h46 => ?_) (fun h46 => ?_)
            · exfalso; omega
            · refine z_al0 (pc' := 50) 30 rfl rfl ?_
              refine z_getf (pc' := 53) 31 rfl rfl f_Mo_9_12 (by first | exact pm_f | exact pm_1 | (rw [pm_o (by decide)]; exact zu_s)) (by rfl) ?_
              refine z_il4 (pc' := 55) 32 rfl rfl ?_
              refine z_iald (pc' := 56) 33 rfl rfl (by first | exact pm_f | exact pm_1 | (rw [pm_o (by decide)]; exact zu_s)) (by omega) (by decide) ?_
              rw [mk_s (by omega), hb1]
              refine z_is7 rfl rfl (pc' := 58) 34 rfl rfl ?_
              refine z_il7 (pc' := 60) 35 rfl rfl ?_
              refine z_bipush (v := nI 17) (by decide) (pc' := 62) 36 rfl rfl ?_
              refine z_icmp_ne_t 37 rfl (tgt := 95) rfl (fun z => by have := (nI_eq (by omega) (by omega)).mp z; omega) ?_
              refine z_il7 (pc' := 97) 56 rfl rfl ?_
              refine z_bipush (v := nI 16) (by decide) (pc' := 99) 57 rfl rfl ?_
              refine z_icmp_eq_f (pc' := 102) 58 rfl rfl (tgt := 109) rfl (fun z => by have := (nI_eq (by omega) (by omega)).mp z; omega) ?_
              refine z_il7 (pc' := 104) 59 rfl rfl ?_
              refine z_bipush (v := nI 15) (by decide) (pc' := 106) 60 rfl rfl ?_
              refine z_icmp_ne_f (pc' := 109) 61 rfl rfl (tgt := 186) rfl rfl ?_
              refine z_inc3 rfl rfl (nI_dec _) (pc' := 112) 62 rfl rfl ?_
              refine z_al0 (pc' := 113) 63 rfl rfl ?_
              refine z_getf (pc' := 116) 64 rfl rfl f_Mo_22_12 (by first | exact pm_f | exact pm_1 | (rw [pm_o (by decide)]; exact zu_s)) (by rfl) ?_
              refine z_il3 (pc' := 117) 65 rfl rfl ?_
              refine z_iconst (v := nI 1) (by decide) (pc' := 118) 66 rfl rfl ?_
              first | refine z_isubN (by omega) (pc' := 119) 67 rfl rfl ?_ | refine z_isub (pc' := 119) 67 rfl rfl ?_
              rw [Nat.add_sub_cancel]
              refine z_il7 (pc' := 121) 68 rfl rfl ?_
              refine z_bipush (v := nI 16) (by decide) (pc' := 123) 69 rfl rfl ?_
              refine z_icmp_ne_t 70 rfl (tgt := 154) rfl (fun z => by have := (nI_eq (by omega) (by omega)).mp z; omega) ?_
              refine z_al0 (pc' := 155) 87 rfl rfl ?_
              refine z_getf (pc' := 158) 88 rfl rfl f_Mo_22_12 (by first | exact pm_f | exact pm_1 | (rw [pm_o (by decide)]; exact zu_s)) (by rfl) ?_
              refine z_il3 (pc' := 159) 89 rfl rfl ?_
              refine z_iconst (v := nI 1) (by decide) (pc' := 160) 90 rfl rfl ?_
              first | refine z_isubN (by omega) (pc' := 161) 91 rfl rfl ?_ | refine z_isub (pc' := 161) 91 rfl rfl ?_
              rw [Nat.add_sub_cancel]
              refine z_zald (pc' := 162) 92 rfl rfl (by first | exact pm_f | exact pm_1 | (rw [pm_o (by decide)]; exact zu_s)) (by omega) (by decide) ?_
              rw [hp.2.1]
              refine z_if_ne_t 93 rfl (tgt := 174) rfl (show ¬ _ = (0 : Int32) from by decide) ?_
              refine z_iconst (v := nI 1) (by decide) (pc' := 175) 99 rfl rfl ?_
              refine z_goto 100 rfl (tgt := 179) rfl ?_
              refine z_zast (pc' := 180) 102 rfl rfl (by first | exact pm_f | exact pm_1 | (rw [pm_o (by decide)]; exact zu_s)) (by omega) (by decide) (by rfl) ?_
              rw [pm_out (by decide), zu_zu]
              first | refine z_inc4N rfl rfl (pc' := 183) 103 rfl rfl ?_ | refine z_inc4 rfl rfl rfl (pc' := 183) 103 rfl rfl ?_
              refine z_goto 104 rfl (tgt := 231) rfl ?_
              refine z_goto 131 rfl (tgt := 42) rfl ?_
              refine z_less7 ?_
              exact l_Mo_isHolding hi hg hm hf9 he t _ (true :: s1) _ hs2 (hok) (hd) (plk_push (b := true) hp.2.2) (Nat.le_of_succ_le hs11)
        · rw [sgM, if_neg (by decide), if_pos rfl] at hs
          obtain ⟨hb1, hs2⟩ := hs
          have hle := sgM_le _ _ _ hs2
          cases a1 <;> cases b1
          · show zW G 2 M_Mo_isHolding 42 _ _ n u _ n u (zS (some (.int (zbo (tpB (evB (fct mo (fa g) (S 3 g) (S 2 g) g) t (false :: s1)) = true)))) (fun q9 : Nat → Int32 => pm (zu ν 93 (.inl (1, 100, .inl q9))) s (mk S mo pr fa sc ch rc ρ)))
            refine z_il4 (pc' := 44) 27 rfl rfl ?_
            refine z_il5 (pc' := 46) 28 rfl rfl ?_
            first | refine z_icmp_geN (pc' := 49) 29 rfl rfl (tgt := 234) rfl (by omega) (by omega) (fun h46 => ?_) (fun h46 => ?_) | refine z_icmp_ge (pc' := 49) 29 rfl rfl (tgt := 234) rfl (fun h46 => ?_) (fun h46 => ?_)
            · exfalso; omega
            · refine z_al0 (pc' := 50) 30 rfl rfl ?_
              refine z_getf (pc' := 53) 31 rfl rfl f_Mo_9_12 (by first | exact pm_f | exact pm_1 | (rw [pm_o (by decide)]; exact zu_s)) (by rfl) ?_
              refine z_il4 (pc' := 55) 32 rfl rfl ?_
              refine z_iald (pc' := 56) 33 rfl rfl (by first | exact pm_f | exact pm_1 | (rw [pm_o (by decide)]; exact zu_s)) (by omega) (by decide) ?_
              rw [mk_s (by omega), hb1]
              refine z_is7 rfl rfl (pc' := 58) 34 rfl rfl ?_
              refine z_il7 (pc' := 60) 35 rfl rfl ?_
              refine z_bipush (v := nI 17) (by decide) (pc' := 62) 36 rfl rfl ?_
              refine z_icmp_ne_t 37 rfl (tgt := 95) rfl (fun z => by have := (nI_eq (by omega) (by omega)).mp z; omega) ?_
              refine z_il7 (pc' := 97) 56 rfl rfl ?_
              refine z_bipush (v := nI 16) (by decide) (pc' := 99) 57 rfl rfl ?_
              refine z_icmp_eq_t 58 rfl (tgt := 109) rfl rfl ?_
              refine z_inc3 rfl rfl (nI_dec _) (pc' := 112) 62 rfl rfl ?_
              refine z_al0 (pc' := 113) 63 rfl rfl ?_
              refine z_getf (pc' := 116) 64 rfl rfl f_Mo_22_12 (by first | exact pm_f | exact pm_1 | (rw [pm_o (by decide)]; exact zu_s)) (by rfl) ?_
              refine z_il3 (pc' := 117) 65 rfl rfl ?_
              refine z_iconst (v := nI 1) (by decide) (pc' := 118) 66 rfl rfl ?_
              first | refine z_isubN (by omega) (pc' := 119) 67 rfl rfl ?_ | refine z_isub (pc' := 119) 67 rfl rfl ?_
              rw [Nat.add_sub_cancel]
              refine z_il7 (pc' := 121) 68 rfl rfl ?_
              refine z_bipush (v := nI 16) (by decide) (pc' := 123) 69 rfl rfl ?_
              refine z_icmp_ne_f (pc' := 126) 70 rfl rfl (tgt := 154) rfl rfl ?_
              refine z_al0 (pc' := 127) 71 rfl rfl ?_
              refine z_getf (pc' := 130) 72 rfl rfl f_Mo_22_12 (by first | exact pm_f | exact pm_1 | (rw [pm_o (by decide)]; exact zu_s)) (by rfl) ?_
              refine z_il3 (pc' := 131) 73 rfl rfl ?_
              refine z_iconst (v := nI 1) (by decide) (pc' := 132) 74 rfl rfl ?_
              first | refine z_isubN (by omega) (pc' := 133) 75 rfl rfl ?_ | refine z_isub (pc' := 133) 75 rfl rfl ?_
              rw [Nat.add_sub_cancel]
              refine z_zald (pc' := 134) 76 rfl rfl (by first | exact pm_f | exact pm_1 | (rw [pm_o (by decide)]; exact zu_s)) (by omega) (by decide) ?_
              rw [hp.2.1]
              refine z_if_eq_t 77 rfl (tgt := 150) rfl rfl ?_
              refine z_iconst (v := nI 0) (by decide) (pc' := 151) 85 rfl rfl ?_
              refine z_goto 86 rfl (tgt := 179) rfl ?_
              refine z_zast (pc' := 180) 102 rfl rfl (by first | exact pm_f | exact pm_1 | (rw [pm_o (by decide)]; exact zu_s)) (by omega) (by decide) (by rfl) ?_
              rw [pm_out (by decide), zu_zu]
              first | refine z_inc4N rfl rfl (pc' := 183) 103 rfl rfl ?_ | refine z_inc4 rfl rfl rfl (pc' := 183) 103 rfl rfl ?_
              refine z_goto 104 rfl (tgt := 231) rfl ?_
              refine z_goto 131 rfl (tgt := 42) rfl ?_
              refine z_less7 ?_
              exact l_Mo_isHolding hi hg hm hf9 he t _ (false :: s1) _ hs2 (hok) (hd) (plk_push (b := false) hp.2.2) (Nat.le_of_succ_le hs11)
          · show zW G 2 M_Mo_isHolding 42 _ _ n u _ n u (zS (some (.int (zbo (tpB (evB (fct mo (fa g) (S 3 g) (S 2 g) g) t (false :: s1)) = true)))) (fun q9 : Nat → Int32 => pm (zu ν 93 (.inl (1, 100, .inl q9))) s (mk S mo pr fa sc ch rc ρ)))
            refine z_il4 (pc' := 44) 27 rfl rfl ?_
            refine z_il5 (pc' := 46) 28 rfl rfl ?_
            first | refine z_icmp_geN (pc' := 49) 29 rfl rfl (tgt := 234) rfl (by omega) (by omega) (fun h46 => ?_) (fun h46 => ?_) | refine z_icmp_ge (pc' := 49) 29 rfl rfl (tgt := 234) rfl (fun h46 => ?_) (fun h46 => ?_)
            · exfalso; omega
            · refine z_al0 (pc' := 50) 30 rfl rfl ?_
              refine z_getf (pc' := 53) 31 rfl rfl f_Mo_9_12 (by first | exact pm_f | exact pm_1 | (rw [pm_o (by decide)]; exact zu_s)) (by rfl) ?_
              refine z_il4 (pc' := 55) 32 rfl rfl ?_
              refine z_iald (pc' := 56) 33 rfl rfl (by first | exact pm_f | exact pm_1 | (rw [pm_o (by decide)]; exact zu_s)) (by omega) (by decide) ?_
              rw [mk_s (by omega), hb1]
              refine z_is7 rfl rfl (pc' := 58) 34 rfl rfl ?_
              refine z_il7 (pc' := 60) 35 rfl rfl ?_
              refine z_bipush (v := nI 17) (by decide) (pc' := 62) 36 rfl rfl ?_
              refine z_icmp_ne_t 37 rfl (tgt := 95) rfl (fun z => by have := (nI_eq (by omega) (by omega)).mp z; omega) ?_
              refine z_il7 (pc' := 97) 56 rfl rfl ?_
              refine z_bipush (v := nI 16) (by decide) (pc' := 99) 57 rfl rfl ?_
              refine z_icmp_eq_t 58 rfl (tgt := 109) rfl rfl ?_
              refine z_inc3 rfl rfl (nI_dec _) (pc' := 112) 62 rfl rfl ?_
              refine z_al0 (pc' := 113) 63 rfl rfl ?_
              refine z_getf (pc' := 116) 64 rfl rfl f_Mo_22_12 (by first | exact pm_f | exact pm_1 | (rw [pm_o (by decide)]; exact zu_s)) (by rfl) ?_
              refine z_il3 (pc' := 117) 65 rfl rfl ?_
              refine z_iconst (v := nI 1) (by decide) (pc' := 118) 66 rfl rfl ?_
              first | refine z_isubN (by omega) (pc' := 119) 67 rfl rfl ?_ | refine z_isub (pc' := 119) 67 rfl rfl ?_
              rw [Nat.add_sub_cancel]
              refine z_il7 (pc' := 121) 68 rfl rfl ?_
              refine z_bipush (v := nI 16) (by decide) (pc' := 123) 69 rfl rfl ?_
              refine z_icmp_ne_f (pc' := 126) 70 rfl rfl (tgt := 154) rfl rfl ?_
              refine z_al0 (pc' := 127) 71 rfl rfl ?_
              refine z_getf (pc' := 130) 72 rfl rfl f_Mo_22_12 (by first | exact pm_f | exact pm_1 | (rw [pm_o (by decide)]; exact zu_s)) (by rfl) ?_
              refine z_il3 (pc' := 131) 73 rfl rfl ?_
              refine z_iconst (v := nI 1) (by decide) (pc' := 132) 74 rfl rfl ?_
              first | refine z_isubN (by omega) (pc' := 133) 75 rfl rfl ?_ | refine z_isub (pc' := 133) 75 rfl rfl ?_
              rw [Nat.add_sub_cancel]
              refine z_zald (pc' := 134) 76 rfl rfl (by first | exact pm_f | exact pm_1 | (rw [pm_o (by decide)]; exact zu_s)) (by omega) (by decide) ?_
              rw [hp.2.1]
              refine z_if_eq_t 77 rfl (tgt := 150) rfl rfl ?_
              refine z_iconst (v := nI 0) (by decide) (pc' := 151) 85 rfl rfl ?_
              refine z_goto 86 rfl (tgt := 179) rfl ?_
              refine z_zast (pc' := 180) 102 rfl rfl (by first | exact pm_f | exact pm_1 | (rw [pm_o (by decide)]; exact zu_s)) (by omega) (by decide) (by rfl) ?_
              rw [pm_out (by decide), zu_zu]
              first | refine z_inc4N rfl rfl (pc' := 183) 103 rfl rfl ?_ | refine z_inc4 rfl rfl rfl (pc' := 183) 103 rfl rfl ?_
              refine z_goto 104 rfl (tgt := 231) rfl ?_
              refine z_goto 131 rfl (tgt := 42) rfl ?_
              refine z_less7 ?_
              exact l_Mo_isHolding hi hg hm hf9 he t _ (false :: s1) _ hs2 (hok) (hd) (plk_push (b := false) hp.2.2) (Nat.le_of_succ_le hs11)
          · show zW G 2 M_Mo_isHolding 42 _ _ n u _ n u (zS (some (.int (zbo (tpB (evB (fct mo (fa g) (S 3 g) (S 2 g) g) t (false :: s1)) = true)))) (fun q9 : Nat → Int32 => pm (zu ν 93 (.inl (1, 100, .inl q9))) s (mk S mo pr fa sc ch rc ρ)))
            refine z_il4 (pc' := 44) 27 rfl rfl ?_
            refine z_il5 (pc' := 46) 28 rfl rfl ?_
            first | refine z_icmp_geN (pc' := 49) 29 rfl rfl (tgt := 234) rfl (by omega) (by omega) (fun h46 => ?_) (fun h46 => ?_) | refine z_icmp_ge (pc' := 49) 29 rfl rfl (tgt := 234) rfl (fun h46 => ?_) (fun h46 => ?_)
            · exfalso; omega
            · refine z_al0 (pc' := 50) 30 rfl rfl ?_
              refine z_getf (pc' := 53) 31 rfl rfl f_Mo_9_12 (by first | exact pm_f | exact pm_1 | (rw [pm_o (by decide)]; exact zu_s)) (by rfl) ?_
              refine z_il4 (pc' := 55) 32 rfl rfl ?_
              refine z_iald (pc' := 56) 33 rfl rfl (by first | exact pm_f | exact pm_1 | (rw [pm_o (by decide)]; exact zu_s)) (by omega) (by decide) ?_
              rw [mk_s (by omega), hb1]
              refine z_is7 rfl rfl (pc' := 58) 34 rfl rfl ?_
              refine z_il7 (pc' := 60) 35 rfl rfl ?_
              refine z_bipush (v := nI 17) (by decide) (pc' := 62) 36 rfl rfl ?_
              refine z_icmp_ne_t 37 rfl (tgt := 95) rfl (fun z => by have := (nI_eq (by omega) (by omega)).mp z; omega) ?_
              refine z_il7 (pc' := 97) 56 rfl rfl ?_
              refine z_bipush (v := nI 16) (by decide) (pc' := 99) 57 rfl rfl ?_
              refine z_icmp_eq_t 58 rfl (tgt := 109) rfl rfl ?_
              refine z_inc3 rfl rfl (nI_dec _) (pc' := 112) 62 rfl rfl ?_
              refine z_al0 (pc' := 113) 63 rfl rfl ?_
              refine z_getf (pc' := 116) 64 rfl rfl f_Mo_22_12 (by first | exact pm_f | exact pm_1 | (rw [pm_o (by decide)]; exact zu_s)) (by rfl) ?_
              refine z_il3 (pc' := 117) 65 rfl rfl ?_
              refine z_iconst (v := nI 1) (by decide) (pc' := 118) 66 rfl rfl ?_
              first | refine z_isubN (by omega) (pc' := 119) 67 rfl rfl ?_ | refine z_isub (pc' := 119) 67 rfl rfl ?_
              rw [Nat.add_sub_cancel]
              refine z_il7 (pc' := 121) 68 rfl rfl ?_
              refine z_bipush (v := nI 16) (by decide) (pc' := 123) 69 rfl rfl ?_
              refine z_icmp_ne_f (pc' := 126) 70 rfl rfl (tgt := 154) rfl rfl ?_
              refine z_al0 (pc' := 127) 71 rfl rfl ?_
              refine z_getf (pc' := 130) 72 rfl rfl f_Mo_22_12 (by first | exact pm_f | exact pm_1 | (rw [pm_o (by decide)]; exact zu_s)) (by rfl) ?_
              refine z_il3 (pc' := 131) 73 rfl rfl ?_
              refine z_iconst (v := nI 1) (by decide) (pc' := 132) 74 rfl rfl ?_
              first | refine z_isubN (by omega) (pc' := 133) 75 rfl rfl ?_ | refine z_isub (pc' := 133) 75 rfl rfl ?_
              rw [Nat.add_sub_cancel]
              refine z_zald (pc' := 134) 76 rfl rfl (by first | exact pm_f | exact pm_1 | (rw [pm_o (by decide)]; exact zu_s)) (by omega) (by decide) ?_
              rw [hp.2.1]
              refine z_if_eq_f (pc' := 137) 77 rfl rfl (tgt := 150) rfl (show ¬ _ = (0 : Int32) from by decide) ?_
              refine z_al0 (pc' := 138) 78 rfl rfl ?_
              refine z_getf (pc' := 141) 79 rfl rfl f_Mo_22_12 (by first | exact pm_f | exact pm_1 | (rw [pm_o (by decide)]; exact zu_s)) (by rfl) ?_
              refine z_il3 (pc' := 142) 80 rfl rfl ?_
              refine z_zald (pc' := 143) 81 rfl rfl (by first | exact pm_f | exact pm_1 | (rw [pm_o (by decide)]; exact zu_s)) (by omega) (by decide) ?_
              rw [show q (s1.length + 1) = _ from hp.1]
              refine z_if_eq_t 82 rfl (tgt := 150) rfl rfl ?_
              refine z_iconst (v := nI 0) (by decide) (pc' := 151) 85 rfl rfl ?_
              refine z_goto 86 rfl (tgt := 179) rfl ?_
              refine z_zast (pc' := 180) 102 rfl rfl (by first | exact pm_f | exact pm_1 | (rw [pm_o (by decide)]; exact zu_s)) (by omega) (by decide) (by rfl) ?_
              rw [pm_out (by decide), zu_zu]
              first | refine z_inc4N rfl rfl (pc' := 183) 103 rfl rfl ?_ | refine z_inc4 rfl rfl rfl (pc' := 183) 103 rfl rfl ?_
              refine z_goto 104 rfl (tgt := 231) rfl ?_
              refine z_goto 131 rfl (tgt := 42) rfl ?_
              refine z_less7 ?_
              exact l_Mo_isHolding hi hg hm hf9 he t _ (false :: s1) _ hs2 (hok) (hd) (plk_push (b := false) hp.2.2) (Nat.le_of_succ_le hs11)
          · show zW G 2 M_Mo_isHolding 42 _ _ n u _ n u (zS (some (.int (zbo (tpB (evB (fct mo (fa g) (S 3 g) (S 2 g) g) t (true :: s1)) = true)))) (fun q9 : Nat → Int32 => pm (zu ν 93 (.inl (1, 100, .inl q9))) s (mk S mo pr fa sc ch rc ρ)))
            refine z_il4 (pc' := 44) 27 rfl rfl ?_
            refine z_il5 (pc' := 46) 28 rfl rfl ?_
            first | refine z_icmp_geN (pc' := 49) 29 rfl rfl (tgt := 234) rfl (by omega) (by omega) (fun h46 => ?_) (fun h46 => ?_) | refine z_icmp_ge (pc' := 49) 29 rfl rfl (tgt := 234) rfl (fun h46 => ?_) (fun h46 => ?_)
            · exfalso; omega
            · refine z_al0 (pc' := 50) 30 rfl rfl ?_
              refine z_getf (pc' := 53) 31 rfl rfl f_Mo_9_12 (by first | exact pm_f | exact pm_1 | (rw [pm_o (by decide)]; exact zu_s)) (by rfl) ?_
              refine z_il4 (pc' := 55) 32 rfl rfl ?_
              refine z_iald (pc' := 56) 33 rfl rfl (by first | exact pm_f | exact pm_1 | (rw [pm_o (by decide)]; exact zu_s)) (by omega) (by decide) ?_
              rw [mk_s (by omega), hb1]
              refine z_is7 rfl rfl (pc' := 58) 34 rfl rfl ?_
              refine z_il7 (pc' := 60) 35 rfl rfl ?_
              refine z_bipush (v := nI 17) (by decide) (pc' := 62) 36 rfl rfl ?_
              refine z_icmp_ne_t 37 rfl (tgt := 95) rfl (fun z => by have := (nI_eq (by omega) (by omega)).mp z; omega) ?_
              refine z_il7 (pc' := 97) 56 rfl rfl ?_
              refine z_bipush (v := nI 16) (by decide) (pc' := 99) 57 rfl rfl ?_
              refine z_icmp_eq_t 58 rfl (tgt := 109) rfl rfl ?_
              refine z_inc3 rfl rfl (nI_dec _) (pc' := 112) 62 rfl rfl ?_
              refine z_al0 (pc' := 113) 63 rfl rfl ?_
              refine z_getf (pc' := 116) 64 rfl rfl f_Mo_22_12 (by first | exact pm_f | exact pm_1 | (rw [pm_o (by decide)]; exact zu_s)) (by rfl) ?_
              refine z_il3 (pc' := 117) 65 rfl rfl ?_
              refine z_iconst (v := nI 1) (by decide) (pc' := 118) 66 rfl rfl ?_
              first | refine z_isubN (by omega) (pc' := 119) 67 rfl rfl ?_ | refine z_isub (pc' := 119) 67 rfl rfl ?_
              rw [Nat.add_sub_cancel]
              refine z_il7 (pc' := 121) 68 rfl rfl ?_
              refine z_bipush (v := nI 16) (by decide) (pc' := 123) 69 rfl rfl ?_
              refine z_icmp_ne_f (pc' := 126) 70 rfl rfl (tgt := 154) rfl rfl ?_
              refine z_al0 (pc' := 127) 71 rfl rfl ?_
              refine z_getf (pc' := 130) 72 rfl rfl f_Mo_22_12 (by first | exact pm_f | exact pm_1 | (rw [pm_o (by decide)]; exact zu_s)) (by rfl) ?_
              refine z_il3 (pc' := 131) 73 rfl rfl ?_
              refine z_iconst (v := nI 1) (by decide) (pc' := 132) 74 rfl rfl ?_
              first | refine z_isubN (by omega) (pc' := 133) 75 rfl rfl ?_ | refine z_isub (pc' := 133) 75 rfl rfl ?_
              rw [Nat.add_sub_cancel]
              refine z_zald (pc' := 134) 76 rfl rfl (by first | exact pm_f | exact pm_1 | (rw [pm_o (by decide)]; exact zu_s)) (by omega) (by decide) ?_
              rw [hp.2.1]
              refine z_if_eq_f (pc' := 137) 77 rfl rfl (tgt := 150) rfl (show ¬ _ = (0 : Int32) from by decide) ?_
              refine z_al0 (pc' := 138) 78 rfl rfl ?_
              refine z_getf (pc' := 141) 79 rfl rfl f_Mo_22_12 (by first | exact pm_f | exact pm_1 | (rw [pm_o (by decide)]; exact zu_s)) (by rfl) ?_
              refine z_il3 (pc' := 142) 80 rfl rfl ?_
              refine z_zald (pc' := 143) 81 rfl rfl (by first | exact pm_f | exact pm_1 | (rw [pm_o (by decide)]; exact zu_s)) (by omega) (by decide) ?_
              rw [show q (s1.length + 1) = _ from hp.1]
              refine z_if_eq_f (pc' := 146) 82 rfl rfl (tgt := 150) rfl (show ¬ _ = (0 : Int32) from by decide) ?_
              refine z_iconst (v := nI 1) (by decide) (pc' := 147) 83 rfl rfl ?_
              refine z_goto 84 rfl (tgt := 179) rfl ?_
              refine z_zast (pc' := 180) 102 rfl rfl (by first | exact pm_f | exact pm_1 | (rw [pm_o (by decide)]; exact zu_s)) (by omega) (by decide) (by rfl) ?_
              rw [pm_out (by decide), zu_zu]
              first | refine z_inc4N rfl rfl (pc' := 183) 103 rfl rfl ?_ | refine z_inc4 rfl rfl rfl (pc' := 183) 103 rfl rfl ?_
              refine z_goto 104 rfl (tgt := 231) rfl ?_
              refine z_goto 131 rfl (tgt := 42) rfl ?_
              refine z_less7 ?_
              exact l_Mo_isHolding hi hg hm hf9 he t _ (true :: s1) _ hs2 (hok) (hd) (plk_push (b := true) hp.2.2) (Nat.le_of_succ_le hs11)
    · rw [sgM, if_neg (by omega), if_neg (by omega), if_neg (by omega)] at hs
      obtain ⟨hb1, hb2, hb3, hs2⟩ := hs
      have hle := sgM_le _ _ _ hs2
      have e1 : evB (fct mo (fa g) (S 3 g) (S 2 g) g) ((o, l, r) :: t) s0 = evB (fct mo (fa g) (S 3 g) (S 2 g) g) t (cmB o (vl (fct mo (fa g) (S 3 g) (S 2 g) g) l) (vl (fct mo (fa g) (S 3 g) (S 2 g) g) r) :: s0) := by simp only [evB, if_neg (show ¬ o = 12 by omega), if_neg (show ¬ o = 11 by omega), if_neg (show ¬ o = 10 by omega)]
      have e2 : dpI ((o, l, r) :: t) s0.length = dpI t (s0.length + 1) := by simp only [dpI, if_neg (show ¬ o = 12 by omega), if_neg (show ¬ o < 21 by omega)]
      rw [e2] at hd
      rw [e1]
      have hfv : ∀ c, opv c → vl (fct mo (fa g) (S 3 g) (S 2 g) g) c < 2 ^ 31 := by
        intro c hc
        unfold opv at hc
        have hs9 := hi.2.2.2.2.2 g
        unfold vl fct fcs un
        repeat' split
        all_goals omega
      refine z_il4 (pc' := 44) 27 rfl rfl ?_
      refine z_il5 (pc' := 46) 28 rfl rfl ?_
      first | refine z_icmp_geN (pc' := 49) 29 rfl rfl (tgt := 234) rfl (by omega) (by omega) (fun h46 => ?_) (fun h46 => ?_) | refine z_icmp_ge (pc' := 49) 29 rfl rfl (tgt := 234) rfl (fun h46 => ?_) (fun h46 => ?_)
      · exfalso; omega
      · refine z_al0 (pc' := 50) 30 rfl rfl ?_
        refine z_getf (pc' := 53) 31 rfl rfl f_Mo_9_12 (by first | exact pm_f | exact pm_1 | (rw [pm_o (by decide)]; exact zu_s)) (by rfl) ?_
        refine z_il4 (pc' := 55) 32 rfl rfl ?_
        refine z_iald (pc' := 56) 33 rfl rfl (by first | exact pm_f | exact pm_1 | (rw [pm_o (by decide)]; exact zu_s)) (by omega) (by decide) ?_
        rw [mk_s (by omega), hb1]
        refine z_is7 rfl rfl (pc' := 58) 34 rfl rfl ?_
        refine z_il7 (pc' := 60) 35 rfl rfl ?_
        refine z_bipush (v := nI 17) (by decide) (pc' := 62) 36 rfl rfl ?_
        refine z_icmp_ne_t 37 rfl (tgt := 95) rfl (fun z => by have := (nI_eq (by omega) (by omega)).mp z; omega) ?_
        refine z_il7 (pc' := 97) 56 rfl rfl ?_
        refine z_bipush (v := nI 16) (by decide) (pc' := 99) 57 rfl rfl ?_
        refine z_icmp_eq_f (pc' := 102) 58 rfl rfl (tgt := 109) rfl (fun z => by have := (nI_eq (by omega) (by omega)).mp z; omega) ?_
        refine z_il7 (pc' := 104) 59 rfl rfl ?_
        refine z_bipush (v := nI 15) (by decide) (pc' := 106) 60 rfl rfl ?_
        refine z_icmp_ne_t 61 rfl (tgt := 186) rfl (fun z => by have := (nI_eq (by omega) (by omega)).mp z; omega) ?_
        refine z_al0 (pc' := 187) 105 rfl rfl ?_
        refine z_getf (pc' := 190) 106 rfl rfl f_Mo_22_12 (by first | exact pm_f | exact pm_1 | (rw [pm_o (by decide)]; exact zu_s)) (by rfl) ?_
        refine z_il3 (pc' := 191) 107 rfl rfl ?_
        refine z_il7 (pc' := 193) 108 rfl rfl ?_
        refine z_al0 (pc' := 194) 109 rfl rfl ?_
        refine z_il1 (pc' := 195) 110 rfl rfl ?_
        refine z_al0 (pc' := 196) 111 rfl rfl ?_
        refine z_getf (pc' := 199) 112 rfl rfl f_Mo_9_12 (by first | exact pm_f | exact pm_1 | (rw [pm_o (by decide)]; exact zu_s)) (by rfl) ?_
        refine z_il4 (pc' := 201) 113 rfl rfl ?_
        refine z_iconst (v := nI 1) (by decide) (pc' := 202) 114 rfl rfl ?_
        first | refine z_iaddN (pc' := 203) 115 rfl rfl ?_ | refine z_iadd (pc' := 203) 115 rfl rfl ?_
        refine z_iald (pc' := 204) 116 rfl rfl (by first | exact pm_f | exact pm_1 | (rw [pm_o (by decide)]; exact zu_s)) (by omega) (by decide) ?_
        rw [mk_s (by omega), hb2]
        refine z_callV1 (pc' := 207) 117 rfl rfl k_Mo_203 (by first | exact pm_f | exact pm_1 | (rw [pm_o (by decide)]; exact zu_s)) (c_Mo_factOf hg hol) (by decide) (Nat.le_refl _) (Nat.le_refl _) rfl rfl (Nat.le_of_ble_eq_true rfl) ?_
        refine z_al0 (pc' := 208) 118 rfl rfl ?_
        refine z_il1 (pc' := 209) 119 rfl rfl ?_
        refine z_al0 (pc' := 210) 120 rfl rfl ?_
        refine z_getf (pc' := 213) 121 rfl rfl f_Mo_9_12 (by first | exact pm_f | exact pm_1 | (rw [pm_o (by decide)]; exact zu_s)) (by rfl) ?_
        refine z_il4 (pc' := 215) 122 rfl rfl ?_
        refine z_iconst (v := nI 2) (by decide) (pc' := 216) 123 rfl rfl ?_
        first | refine z_iaddN (pc' := 217) 124 rfl rfl ?_ | refine z_iadd (pc' := 217) 124 rfl rfl ?_
        refine z_iald (pc' := 218) 125 rfl rfl (by first | exact pm_f | exact pm_1 | (rw [pm_o (by decide)]; exact zu_s)) (by omega) (by decide) ?_
        rw [mk_s (by omega), hb3]
        refine z_callV1 (pc' := 221) 126 rfl rfl k_Mo_203 (by first | exact pm_f | exact pm_1 | (rw [pm_o (by decide)]; exact zu_s)) (c_Mo_factOf hg hor) (by decide) (Nat.le_refl _) (Nat.le_refl _) rfl rfl (Nat.le_of_ble_eq_true rfl) ?_
        refine z_callS1 (pc' := 224) 127 rfl rfl k_Mo_206 (c_Mo_isSo ho1 ho2 (hfv l hol) (hfv r hor)) (by decide) (Nat.le_refl _) (Nat.le_refl _) rfl rfl (Nat.le_of_ble_eq_true rfl) ?_
        refine z_zast (pc' := 225) 128 rfl rfl (by first | exact pm_f | exact pm_1 | (rw [pm_o (by decide)]; exact zu_s)) (by omega) (by decide) (by exact zbo_nar) ?_
        rw [pm_out (by decide), zu_zu]
        first | refine z_inc3N rfl rfl (pc' := 228) 129 rfl rfl ?_ | refine z_inc3 rfl rfl rfl (pc' := 228) 129 rfl rfl ?_
        refine z_inc4 rfl rfl (nI_inc _ 3) (pc' := 231) 130 rfl rfl ?_
        refine z_goto 131 rfl (tgt := 42) rfl ?_
        refine z_less7 ?_
        exact l_Mo_isHolding hi hg hm hf9 he t _ (cmB o (vl (fct mo (fa g) (S 3 g) (S 2 g) g) l) (vl (fct mo (fa g) (S 3 g) (S 2 g) g) r) :: s0) _ hs2 (hok) (hd) (plk_push hp) (by simp; omega)
