set_option maxHeartbeats 4000000 in
set_option maxRecDepth 100000 in
theorem c_Cr_promiseTo2 {G : zG} {n u : Nat} {ν : Nat → va_E} {S : Nat → Nat → Nat} {sc ch : Int32} (hco : isCo ν S sc ch) {a mo cs : Nat} {pr fa q : Nat → Nat} (ha : a = 13 ∨ 43 ≤ a) {g w : Nat} (hg : g < 6) :
    zMet G 0 M_Cr_promiseTo [.ref a, .ref 5, .int (nI g), .int (nI w)] n u (pcr ν a mo cs pr fa q) n u (zE none (pcr ν a mo cs (un pr g w) (un fa g (S 3 g)) q)) := by
  refine z_start (lv := [.ref a, .ref 5, .int (nI g), .int (nI w)]) K_Cr_promiseTo rfl rfl (Nat.le_refl _) (Nat.le_refl _) (Nat.le_of_ble_eq_true rfl) rfl ?_
  obtain ⟨m5, m6, m7, m8, m9, m10, m11, m12, m22⟩ := hco
  refine z_al0 (pc' := 1) 0 rfl rfl ?_
  refine z_getf (pc' := 4) 1 rfl rfl f_Cr_9_4 (by first | exact pcr_0 | exact pcr_1 | exact pcr_2 | exact pcr_3 | (rw [pcr_o (by omega)]; assumption)) (by rfl) ?_
  refine z_il2 (pc' := 5) 2 rfl rfl ?_
  refine z_il3 (pc' := 6) 3 rfl rfl ?_
  refine z_iast (pc' := 7) 4 rfl rfl (by first | exact pcr_0 | exact pcr_1 | exact pcr_2 | exact pcr_3 | (rw [pcr_o (by omega)]; assumption)) (by omega) (by decide) ?_
  rw [upd_n, pcr_s1]
  refine z_al0 (pc' := 8) 5 rfl rfl ?_
  refine z_getf (pc' := 11) 6 rfl rfl f_Cr_15_4 (by first | exact pcr_0 | exact pcr_1 | exact pcr_2 | exact pcr_3 | (rw [pcr_o (by omega)]; assumption)) (by rfl) ?_
  refine z_il2 (pc' := 12) 7 rfl rfl ?_
  refine z_al1 (pc' := 13) 8 rfl rfl ?_
  refine z_getr (pc' := 16) 9 rfl rfl f_Cr_36_3 (by first | exact pcr_0 | exact pcr_1 | exact pcr_2 | exact pcr_3 | (rw [pcr_o (by omega)]; assumption)) (by rfl) ?_
  refine z_il2 (pc' := 17) 10 rfl rfl ?_
  refine z_iald (pc' := 18) 11 rfl rfl (by first | exact pcr_0 | exact pcr_1 | exact pcr_2 | exact pcr_3 | (rw [pcr_o (by omega)]; assumption)) (by omega) (by decide) ?_
  refine z_iast (pc' := 19) 12 rfl rfl (by first | exact pcr_0 | exact pcr_1 | exact pcr_2 | exact pcr_3 | (rw [pcr_o (by omega)]; assumption)) (by omega) (by decide) ?_
  rw [upd_n, pcr_s2]
  exact z_return 13 rfl rfl rfl rfl (by exact ⟨rfl, rfl⟩)
/-- the course that is now, in the coast -/
theorem c_promiseToC {G : zG} {n u : Nat} {ν : Nat → va_E} {S : Nat → Nat → Nat} {sc ch : Int32} {mo cs : Nat} {pr fa q : Nat → Nat} {g w : Nat} (hg : g < 6) : zMet G 0 M_Cr_promiseTo [.ref 13, .ref 5, .int (nI g), .int (nI w)] n u (pcc ν S sc ch mo cs pr fa q) n u (zE none (pcc ν S sc ch mo cs (un pr g w) (un fa g (S 3 g)) q)) := c_Cr_promiseTo2 isCo_pco (Or.inl rfl) hg
theorem c_bridesOfC {G : zG} {n u : Nat} {ν : Nat → va_E} {S : Nat → Nat → Nat} {sc ch : Int32} {mo cs : Nat} {pr fa q : Nat → Nat} (hi : iS S) {w : Nat} (hw : w ≤ 6) (hp : ∀ j, pr j ≤ 6) : zMet G 0 M_Cr_bridesOf [.ref 13, .ref 5, .int (nI w)] n u (pcc ν S sc ch mo cs pr fa q) n u (zE (some (.int (nI (brN pr w (S 0 0))))) (pcc ν S sc ch mo cs pr fa q)) := c_Cr_bridesOf isCo_pco hi (Or.inl rfl) hw hp
theorem c_promisedSetC {G : zG} {n u : Nat} {ν : Nat → va_E} {S : Nat → Nat → Nat} {sc ch : Int32} {mo cs : Nat} {pr fa q : Nat → Nat} (hi : iS S) (hp : ∀ j, pr j ≤ 6) : zMet G 0 M_Cr_promisedSet [.ref 13, .ref 5] n u (pcc ν S sc ch mo cs pr fa q) n u (zE (some (.int (nI (psN pr (S 0 0))))) (pcc ν S sc ch mo cs pr fa q)) := c_Cr_promisedSet isCo_pco hi (Or.inl rfl) hp
theorem c_doesC {G : zG} {n u : Nat} {ν : Nat → va_E} {S : Nat → Nat → Nat} {sc ch : Int32} {mo cs : Nat} {pr fa q : Nat → Nat} (hi : iS S) {β : Nat → Nat → Nat} {its : Nat → zI} {D : zD6} (hbk : isBk ν 17 β) (hD : dzB β its D) {g : Nat} (hg : g < 6) (hm : mo ≤ 16) (hf : ∀ j, fa j ≤ 9) : zMet G 3 M_Cr_doesInCalm [.ref 13, .ref 5, .int (nI g)] n u (pcc ν S sc ch mo cs pr fa q) n u (zE (some (.int (nI (D (S 1 g) mo (fa g) (S 3 g) (S 2 g) g)))) (pcc ν S sc ch mo cs pr fa (fcs mo (fa g) (S 3 g) (S 2 g) g q))) := c_Cr_doesInCalm isCo_pco hi (Or.inl rfl) (isBk_pco hbk) hD hg hm hf
theorem c_passesC {G : zG} {n u : Nat} {ν : Nat → va_E} {S : Nat → Nat → Nat} {sc ch : Int32} {mo cs : Nat} {pr fa q : Nat → Nat} (hi : iS S) {β : Nat → Nat → Nat} {its : Nat → zI} {D : zD6} (hbk : isBk ν 17 β) (hD : dzB β its D) {act : Nat} (hm : mo ≤ 16) (hact : act < 2 ^ 31) (hx : iX S pr fa) : zMet G 4 M_Cr_passes [.ref 13, .ref 5, .int (nI act)] n u (pcc ν S sc ch mo cs pr fa q) n u (zS (some (.int (nI (mon S D mo act pr fa).2.2.2.2))) (fun q9 : Nat → Nat => pcc ν S sc ch (mo + 1) (mon S D mo act pr fa).2.2.2.1 (mon S D mo act pr fa).1 (mon S D mo act pr fa).2.1 q9)) := c_Cr_passes isCo_pco hi (Or.inl rfl) (isBk_pco hbk) hD hm hact hx
def gS' (S : Nat → Nat → Nat) (x y z : Nat) : Nat → Nat → Nat := un (un (un (un S 1 (un (S 1) (S 0 0) x)) 2 (un (S 2) (S 0 0) y)) 3 (un (S 3) (S 0 0) z)) 0 (un (S 0) 0 (S 0 0 + 1))
theorem gS'_ok {S : Nat → Nat → Nat} (hi : iS S) (h6 : S 0 0 < 6) {x y z : Nat} (hx : x ≤ 5) (hy : y ≤ 7) (hz : z ≤ 9) (hz1 : 1 ≤ z) : iS (gS' S x y z) := by
  obtain ⟨a1, a2, a3, a4, a5, a6⟩ := hi
  refine ⟨h6, a2, a3, a4, a5, fun j => ?_⟩
  obtain ⟨b1, b2, b3, b4, b5, b6, b7, b8, b9⟩ := a6 j
  have e1 : (gS' S x y z) 1 j = if j = S 0 0 then x else S 1 j := rfl
  have e2 : (gS' S x y z) 2 j = if j = S 0 0 then y else S 2 j := rfl
  have e3 : (gS' S x y z) 3 j = if j = S 0 0 then z else S 3 j := rfl
  refine ⟨?_, ?_, ?_, b4, b5, b6, b7, b8, fun hj => ?_⟩
  · rw [e1]; split <;> omega
  · rw [e2]; split <;> omega
  · rw [e3]; split <;> omega
  · have hj2 : j < S 0 0 + 1 := hj
    rw [e3]; split
    · omega
    · exact b9 (by omega)
theorem gX'_ok {S : Nat → Nat → Nat} {pr fa : Nat → Nat} (hx : iX S pr fa) {x y z : Nat} (hz : z ≤ 9) (hz1 : 1 ≤ z) : iX (gS' S x y z) (un pr (S 0 0) 6) (un fa (S 0 0) z) := by
  intro j
  obtain ⟨b1, b2, b3⟩ := hx j
  unfold un
  by_cases e : j = S 0 0
  · rw [if_pos e, if_pos e]; exact ⟨by omega, hz, fun _ => ⟨hz1, Or.inr rfl⟩⟩
  · rw [if_neg e, if_neg e]
    refine ⟨b1, b2, fun hj => ?_⟩
    have hj2 : j < S 0 0 + 1 := hj
    exact b3 (by omega)
set_option maxHeartbeats 4000000 in
set_option maxRecDepth 100000 in
theorem c_Co_addGirl {G : zG} {n u : Nat} {ν : Nat → va_E} {S : Nat → Nat → Nat} {sc ch : Int32} {mo cs : Nat} {pr fa q : Nat → Nat} (hi : iS S) (h6 : S 0 0 < 6) {x y z : Nat} (hz : z ≤ 9) :
    zMet G 1 M_Co_addGirl [.ref 5, .int (nI x), .int (nI y), .int (nI z)] n u (pcc ν S sc ch mo cs pr fa q) n u (zE (some (.int (nI (S 0 0)))) (pcc ν (gS' S x y z) sc ch mo cs (un pr (S 0 0) 6) (un fa (S 0 0) z) q)) := by
  refine z_start (lv := [.ref 5, .int (nI x), .int (nI y), .int (nI z), .retAddr 0]) K_Co_addGirl rfl rfl (Nat.le_refl _) (Nat.le_refl _) (Nat.le_of_ble_eq_true rfl) rfl ?_
  refine z_al0 (pc' := 1) 0 rfl rfl ?_
  refine z_getf (pc' := 4) 1 rfl rfl f_Co_60_3 (by first | exact pcc_5 | exact pcc_6 | exact pcc_7 | exact pcc_8 | exact pcc_9 | exact pcc_10 | exact pcc_11 | exact pcc_12 | exact pcc_13 | exact pcc_14 | exact pcc_15 | exact pcc_22) (by rfl) ?_
  refine z_is4 rfl rfl (pc' := 6) 2 rfl rfl ?_
  refine z_al0 (pc' := 7) 3 rfl rfl ?_
  refine z_getf (pc' := 10) 4 rfl rfl f_Co_9_3 (by first | exact pcc_5 | exact pcc_6 | exact pcc_7 | exact pcc_8 | exact pcc_9 | exact pcc_10 | exact pcc_11 | exact pcc_12 | exact pcc_13 | exact pcc_14 | exact pcc_15 | exact pcc_22) (by rfl) ?_
  refine z_il4 (pc' := 12) 5 rfl rfl ?_
  refine z_il1 (pc' := 13) 6 rfl rfl ?_
  refine z_iast (pc' := 14) 7 rfl rfl (by first | exact pcc_5 | exact pcc_6 | exact pcc_7 | exact pcc_8 | exact pcc_9 | exact pcc_10 | exact pcc_11 | exact pcc_12 | exact pcc_13 | exact pcc_14 | exact pcc_15 | exact pcc_22) (by omega) (by decide) ?_
  rw [upd_n, pcc_s6]
  refine z_al0 (pc' := 15) 8 rfl rfl ?_
  refine z_getf (pc' := 18) 9 rfl rfl f_Co_15_3 (by first | exact pcc_5 | exact pcc_6 | exact pcc_7 | exact pcc_8 | exact pcc_9 | exact pcc_10 | exact pcc_11 | exact pcc_12 | exact pcc_13 | exact pcc_14 | exact pcc_15 | exact pcc_22) (by rfl) ?_
  refine z_il4 (pc' := 20) 10 rfl rfl ?_
  refine z_il2 (pc' := 21) 11 rfl rfl ?_
  refine z_iast (pc' := 22) 12 rfl rfl (by first | exact pcc_5 | exact pcc_6 | exact pcc_7 | exact pcc_8 | exact pcc_9 | exact pcc_10 | exact pcc_11 | exact pcc_12 | exact pcc_13 | exact pcc_14 | exact pcc_15 | exact pcc_22) (by omega) (by decide) ?_
  rw [upd_n, pcc_s7]
  refine z_al0 (pc' := 23) 13 rfl rfl ?_
  refine z_getf (pc' := 26) 14 rfl rfl f_Co_18_3 (by first | exact pcc_5 | exact pcc_6 | exact pcc_7 | exact pcc_8 | exact pcc_9 | exact pcc_10 | exact pcc_11 | exact pcc_12 | exact pcc_13 | exact pcc_14 | exact pcc_15 | exact pcc_22) (by rfl) ?_
  refine z_il4 (pc' := 28) 15 rfl rfl ?_
  refine z_il3 (pc' := 29) 16 rfl rfl ?_
  refine z_iast (pc' := 30) 17 rfl rfl (by first | exact pcc_5 | exact pcc_6 | exact pcc_7 | exact pcc_8 | exact pcc_9 | exact pcc_10 | exact pcc_11 | exact pcc_12 | exact pcc_13 | exact pcc_14 | exact pcc_15 | exact pcc_22) (by omega) (by decide) ?_
  rw [upd_n, pcc_s8]
  refine z_al0 (pc' := 31) 18 rfl rfl ?_
  refine z_getf (pc' := 34) 19 rfl rfl f_Co_43_3 (by first | exact pcc_5 | exact pcc_6 | exact pcc_7 | exact pcc_8 | exact pcc_9 | exact pcc_10 | exact pcc_11 | exact pcc_12 | exact pcc_13 | exact pcc_14 | exact pcc_15 | exact pcc_22) (by rfl) ?_
  refine z_al0 (pc' := 35) 20 rfl rfl ?_
  refine z_il4 (pc' := 37) 21 rfl rfl ?_
  refine z_bipush (v := nI 6) (by decide) (pc' := 39) 22 rfl rfl ?_
  refine z_callV0 (pc' := 42) 23 rfl rfl k_Co_88 (by first | exact pcc_5 | exact pcc_6 | exact pcc_7 | exact pcc_8 | exact pcc_9 | exact pcc_10 | exact pcc_11 | exact pcc_12 | exact pcc_13 | exact pcc_14 | exact pcc_15 | exact pcc_22) (c_promiseToC (by omega)) (by decide) (Nat.le_refl _) (Nat.le_refl _) rfl rfl (Nat.le_of_ble_eq_true rfl) ?_
  refine z_al0 (pc' := 43) 24 rfl rfl ?_
  refine z_dup rfl (pc' := 44) 25 rfl rfl ?_
  refine z_getf (pc' := 47) 26 rfl rfl f_Co_60_3 (by first | exact pcc_5 | exact pcc_6 | exact pcc_7 | exact pcc_8 | exact pcc_9 | exact pcc_10 | exact pcc_11 | exact pcc_12 | exact pcc_13 | exact pcc_14 | exact pcc_15 | exact pcc_22) (by rfl) ?_
  refine z_iconst (v := nI 1) (by decide) (pc' := 48) 27 rfl rfl ?_
  first | refine z_iaddN (pc' := 49) 28 rfl rfl ?_ | refine z_iadd (pc' := 49) 28 rfl rfl ?_
  refine z_putf (pc' := 52) 29 rfl rfl f_Co_60_3 (by first | exact pcc_5 | exact pcc_6 | exact pcc_7 | exact pcc_8 | exact pcc_9 | exact pcc_10 | exact pcc_11 | exact pcc_12 | exact pcc_13 | exact pcc_14 | exact pcc_15 | exact pcc_22) rfl rfl (by rfl) (by rfl) ?_
  dsimp only [List.set]
  rw [ob5_ng, pcc_s5 un0]
  refine z_il4 (pc' := 54) 30 rfl rfl ?_
  exact z_ireturn 31 rfl rfl (by first | rfl | exact zbo_nar) rfl rfl (by refine ⟨rfl, ?_⟩; simp [un, gS'])
