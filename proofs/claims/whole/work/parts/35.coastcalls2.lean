def wS' (S : Nat → Nat → Nat) (x y z v : Nat) : Nat → Nat → Nat := un (un (un (un (un S 4 (un (S 4) (S 0 1) x)) 5 (un (S 5) (S 0 1) y)) 6 (un (S 6) (S 0 1) z)) 7 (un (S 7) (S 0 1) v)) 0 (un (S 0) 1 (S 0 1 + 1))
def rS' (S : Nat → Nat → Nat) (x y z v : Nat) : Nat → Nat → Nat := un (un S 8 (un (un (un (un (S 8) (4 * S 0 2) x) (4 * S 0 2 + 1) y) (4 * S 0 2 + 2) z) (4 * S 0 2 + 3) v)) 0 (un (S 0) 2 (S 0 2 + 1))
theorem un5 {S : Nat → Nat → Nat} {A B C E F : Nat → Nat} : un (un (un (un (un S 0 A) 4 B) 5 C) 6 E) 7 F = un (un (un (un (un S 4 B) 5 C) 6 E) 7 F) 0 A := by
  funext k
  unfold un
  by_cases h : k = 0
  · subst h; rfl
  · simp [h]
theorem un8 {S : Nat → Nat → Nat} {A B C E F : Nat → Nat} : un (un (un (un (un S 0 A) 8 B) 8 C) 8 E) 8 F = un (un S 8 F) 0 A := by
  rw [un_un, un_un, un_un]
  funext k
  unfold un
  by_cases h : k = 0
  · subst h; rfl
  · simp [h]
theorem wS'_ok {S : Nat → Nat → Nat} (hi : iS S) (h6 : S 0 1 < 6) {x y z v : Nat} (hx : x ≤ 7) (hy : y ≤ 9) (hz : z ≤ 15) (hv : v ≤ 15) : iS (wS' S x y z v) :=
  iS_nw (S := un (un (un (un S 4 (un (S 4) (S 0 1) x)) 5 (un (S 5) (S 0 1) y)) 6 (un (S 6) (S 0 1) z)) 7 (un (S 7) (S 0 1) v)) (iS_7 (S := un (un (un S 4 (un (S 4) (S 0 1) x)) 5 (un (S 5) (S 0 1) y)) 6 (un (S 6) (S 0 1) z)) (iS_6 (S := un (un S 4 (un (S 4) (S 0 1) x)) 5 (un (S 5) (S 0 1) y)) (iS_5 (S := un S 4 (un (S 4) (S 0 1) x)) (iS_4 hi hx) hy) hz) hv) h6
theorem rS'_ok {S : Nat → Nat → Nat} (hi : iS S) (h6 : S 0 2 < 6) {x y z v : Nat} (hx : x ≤ 99) (hy : y ≤ 99) (hz : z ≤ 99) (hv : v ≤ 99) : iS (rS' S x y z v) := by
  have e : rS' S x y z v = un (un (un (un (un S 8 (un (S 8) (4 * S 0 2) x)) 8 (un (un (S 8) (4 * S 0 2) x) (4 * S 0 2 + 1) y)) 8 (un (un (un (S 8) (4 * S 0 2) x) (4 * S 0 2 + 1) y) (4 * S 0 2 + 2) z)) 8 (un (un (un (un (S 8) (4 * S 0 2) x) (4 * S 0 2 + 1) y) (4 * S 0 2 + 2) z) (4 * S 0 2 + 3) v)) 0 (un (S 0) 2 (S 0 2 + 1)) := by
    rw [un_un, un_un, un_un]
    rfl
  rw [e]
  exact iS_nr (iS_8 (iS_8 (iS_8 (iS_8 hi hx) hy) hz) hv) h6
theorem wX'_ok {S : Nat → Nat → Nat} {pr fa : Nat → Nat} (hx : iX S pr fa) {x y z v : Nat} : iX (wS' S x y z v) pr fa := by
  intro j
  obtain ⟨b1, b2, b3⟩ := hx j
  refine ⟨b1, b2, fun hj => ?_⟩
  obtain ⟨c1, c2⟩ := b3 hj
  refine ⟨c1, ?_⟩
  show pr j < S 0 1 + 1 ∨ pr j = 6
  omega
def f_wind : zκ → Int32 → Int32 → Int32 → Int32 → Int32 × zκ
  | (S, mo, pr, fa, sc, ch, rc, D), x, y, z, v =>
    if (nI 0 ≤ x ∧ x ≤ nI 7) ∧ (nI 1 ≤ y ∧ y ≤ nI 9) ∧ (nI 0 ≤ z ∧ z ≤ nI 15) ∧ (z ≤ v ∧ v ≤ nI 15) then
      (if S 0 1 = 6 then (-2, (S, mo, pr, fa, sc, ch, rc, D)) else (nI (S 0 1), (wS' S (tN x) (tN y) (tN z) (tN v), mo, pr, fa, sc, ch, rc, D)))
    else (-1, (S, mo, pr, fa, sc, ch, rc, D))
def f_report : zκ → Int32 → Int32 → Int32 → Int32 → Int32 × zκ
  | (S, mo, pr, fa, sc, ch, rc, D), x, y, z, v =>
    if (nI 1 ≤ x ∧ x ≤ nI 5) ∧ (nI 0 ≤ y ∧ y ≤ nI 7) ∧ (nI 0 ≤ z ∧ z ≤ nI 99) ∧ (z ≤ v ∧ v ≤ nI 99) then
      (if S 0 2 = 6 then (-2, (S, mo, pr, fa, sc, ch, rc, D)) else (nI (S 0 2), (rS' S (tN x) (tN y) (tN z) (tN v), mo, pr, fa, sc, ch, rc, D)))
    else (-1, (S, mo, pr, fa, sc, ch, rc, D))
def dwF (S : Nat → Nat → Nat) (fa : Nat → Nat) : Nat → Nat → Nat
  | 0 => fa
  | k + 1 => un (dwF S fa k) k (S 3 k)
def f_anew : zκ → Int32 × zκ
  | (S, mo, pr, fa, sc, ch, rc, D) => (nI mo, (S, 0, pr, dwF S fa (S 0 0), nI 0, ch, rc, D))
theorem dwF_ok {S : Nat → Nat → Nat} {pr fa : Nat → Nat} (hi : iS S) (hx : iX S pr fa) : ∀ k, k ≤ S 0 0 → iX S pr (dwF S fa k)
  | 0, _ => hx
  | k + 1, h => by
    intro j
    obtain ⟨b1, b2, b3⟩ := dwF_ok hi hx k (by omega) j
    obtain ⟨d1, d2, d3, d4, d5, d6, d7, d8, d9⟩ := hi.2.2.2.2.2 k
    unfold dwF un
    by_cases e : j = k
    · rw [if_pos e]; exact ⟨b1, d3, fun hj => ⟨d9 (by omega), (b3 hj).2⟩⟩
    · rw [if_neg e]; exact ⟨b1, b2, b3⟩
set_option maxHeartbeats 4000000 in
set_option maxRecDepth 100000 in
theorem c_Co_addWind {G : zG} {n u : Nat} {ν : Nat → va_E} {S : Nat → Nat → Nat} {sc ch : Int32} {mo cs : Nat} {pr fa q : Nat → Nat} (hi : iS S) (h6 : S 0 1 < 6) {x y z v : Nat} :
    zMet G 0 M_Co_addWind [.ref 5, .int (nI x), .int (nI y), .int (nI z), .int (nI v)] n u (pcc ν S sc ch mo cs pr fa q) n u (zE (some (.int (nI (S 0 1)))) (pcc ν (wS' S x y z v) sc ch mo cs pr fa q)) := by
  refine z_start (lv := [.ref 5, .int (nI x), .int (nI y), .int (nI z), .int (nI v), .retAddr 0]) K_Co_addWind rfl rfl (Nat.le_refl _) (Nat.le_refl _) (Nat.le_of_ble_eq_true rfl) rfl ?_
  refine z_al0 (pc' := 1) 0 rfl rfl ?_
  refine z_getf (pc' := 4) 1 rfl rfl f_Co_69_3 (by first | exact pcc_5 | exact pcc_6 | exact pcc_7 | exact pcc_8 | exact pcc_9 | exact pcc_10 | exact pcc_11 | exact pcc_12 | exact pcc_13 | exact pcc_14 | exact pcc_15 | exact pcc_22) (by rfl) ?_
  refine z_is5 rfl rfl (pc' := 6) 2 rfl rfl ?_
  refine z_al0 (pc' := 7) 3 rfl rfl ?_
  refine z_getf (pc' := 10) 4 rfl rfl f_Co_21_3 (by first | exact pcc_5 | exact pcc_6 | exact pcc_7 | exact pcc_8 | exact pcc_9 | exact pcc_10 | exact pcc_11 | exact pcc_12 | exact pcc_13 | exact pcc_14 | exact pcc_15 | exact pcc_22) (by rfl) ?_
  refine z_il5 (pc' := 12) 5 rfl rfl ?_
  refine z_il1 (pc' := 13) 6 rfl rfl ?_
  refine z_iast (pc' := 14) 7 rfl rfl (by first | exact pcc_5 | exact pcc_6 | exact pcc_7 | exact pcc_8 | exact pcc_9 | exact pcc_10 | exact pcc_11 | exact pcc_12 | exact pcc_13 | exact pcc_14 | exact pcc_15 | exact pcc_22) (by omega) (by decide) ?_
  rw [upd_n, pcc_s9]
  refine z_al0 (pc' := 15) 8 rfl rfl ?_
  refine z_getf (pc' := 18) 9 rfl rfl f_Co_24_3 (by first | exact pcc_5 | exact pcc_6 | exact pcc_7 | exact pcc_8 | exact pcc_9 | exact pcc_10 | exact pcc_11 | exact pcc_12 | exact pcc_13 | exact pcc_14 | exact pcc_15 | exact pcc_22) (by rfl) ?_
  refine z_il5 (pc' := 20) 10 rfl rfl ?_
  refine z_il2 (pc' := 21) 11 rfl rfl ?_
  refine z_iast (pc' := 22) 12 rfl rfl (by first | exact pcc_5 | exact pcc_6 | exact pcc_7 | exact pcc_8 | exact pcc_9 | exact pcc_10 | exact pcc_11 | exact pcc_12 | exact pcc_13 | exact pcc_14 | exact pcc_15 | exact pcc_22) (by omega) (by decide) ?_
  rw [upd_n, pcc_s10]
  refine z_al0 (pc' := 23) 13 rfl rfl ?_
  refine z_getf (pc' := 26) 14 rfl rfl f_Co_27_3 (by first | exact pcc_5 | exact pcc_6 | exact pcc_7 | exact pcc_8 | exact pcc_9 | exact pcc_10 | exact pcc_11 | exact pcc_12 | exact pcc_13 | exact pcc_14 | exact pcc_15 | exact pcc_22) (by rfl) ?_
  refine z_il5 (pc' := 28) 15 rfl rfl ?_
  refine z_il3 (pc' := 29) 16 rfl rfl ?_
  refine z_iast (pc' := 30) 17 rfl rfl (by first | exact pcc_5 | exact pcc_6 | exact pcc_7 | exact pcc_8 | exact pcc_9 | exact pcc_10 | exact pcc_11 | exact pcc_12 | exact pcc_13 | exact pcc_14 | exact pcc_15 | exact pcc_22) (by omega) (by decide) ?_
  rw [upd_n, pcc_s11]
  refine z_al0 (pc' := 31) 18 rfl rfl ?_
  refine z_getf (pc' := 34) 19 rfl rfl f_Co_30_3 (by first | exact pcc_5 | exact pcc_6 | exact pcc_7 | exact pcc_8 | exact pcc_9 | exact pcc_10 | exact pcc_11 | exact pcc_12 | exact pcc_13 | exact pcc_14 | exact pcc_15 | exact pcc_22) (by rfl) ?_
  refine z_il5 (pc' := 36) 20 rfl rfl ?_
  refine z_il4 (pc' := 38) 21 rfl rfl ?_
  refine z_iast (pc' := 39) 22 rfl rfl (by first | exact pcc_5 | exact pcc_6 | exact pcc_7 | exact pcc_8 | exact pcc_9 | exact pcc_10 | exact pcc_11 | exact pcc_12 | exact pcc_13 | exact pcc_14 | exact pcc_15 | exact pcc_22) (by omega) (by decide) ?_
  rw [upd_n, pcc_s12]
  refine z_al0 (pc' := 40) 23 rfl rfl ?_
  refine z_dup rfl (pc' := 41) 24 rfl rfl ?_
  refine z_getf (pc' := 44) 25 rfl rfl f_Co_69_3 (by first | exact pcc_5 | exact pcc_6 | exact pcc_7 | exact pcc_8 | exact pcc_9 | exact pcc_10 | exact pcc_11 | exact pcc_12 | exact pcc_13 | exact pcc_14 | exact pcc_15 | exact pcc_22) (by rfl) ?_
  refine z_iconst (v := nI 1) (by decide) (pc' := 45) 26 rfl rfl ?_
  first | refine z_iaddN (pc' := 46) 27 rfl rfl ?_ | refine z_iadd (pc' := 46) 27 rfl rfl ?_
  refine z_putf (pc' := 49) 28 rfl rfl f_Co_69_3 (by first | exact pcc_5 | exact pcc_6 | exact pcc_7 | exact pcc_8 | exact pcc_9 | exact pcc_10 | exact pcc_11 | exact pcc_12 | exact pcc_13 | exact pcc_14 | exact pcc_15 | exact pcc_22) rfl rfl (by rfl) (by rfl) ?_
  dsimp only [List.set]
  rw [ob5_nw, pcc_s5 un0]
  refine z_il5 (pc' := 51) 29 rfl rfl ?_
  exact z_ireturn 30 rfl rfl (by first | rfl | exact zbo_nar) rfl rfl (by exact ⟨rfl, rfl⟩)
set_option maxHeartbeats 4000000 in
set_option maxRecDepth 100000 in
theorem c_Co_addReport {G : zG} {n u : Nat} {ν : Nat → va_E} {S : Nat → Nat → Nat} {sc ch : Int32} {mo cs : Nat} {pr fa q : Nat → Nat} (hi : iS S) (h6 : S 0 2 < 6) {x y z v : Nat} :
    zMet G 0 M_Co_addReport [.ref 5, .int (nI x), .int (nI y), .int (nI z), .int (nI v)] n u (pcc ν S sc ch mo cs pr fa q) n u (zE (some (.int (nI (S 0 2)))) (pcc ν (rS' S x y z v) sc ch mo cs pr fa q)) := by
  refine z_start (lv := [.ref 5, .int (nI x), .int (nI y), .int (nI z), .int (nI v), .retAddr 0]) K_Co_addReport rfl rfl (Nat.le_refl _) (Nat.le_refl _) (Nat.le_of_ble_eq_true rfl) rfl ?_
  refine z_al0 (pc' := 1) 0 rfl rfl ?_
  refine z_getf (pc' := 4) 1 rfl rfl f_Co_82_3 (by first | exact pcc_5 | exact pcc_6 | exact pcc_7 | exact pcc_8 | exact pcc_9 | exact pcc_10 | exact pcc_11 | exact pcc_12 | exact pcc_13 | exact pcc_14 | exact pcc_15 | exact pcc_22) (by rfl) ?_
  refine z_is5 rfl rfl (pc' := 6) 2 rfl rfl ?_
  refine z_al0 (pc' := 7) 3 rfl rfl ?_
  refine z_getf (pc' := 10) 4 rfl rfl f_Co_54_3 (by first | exact pcc_5 | exact pcc_6 | exact pcc_7 | exact pcc_8 | exact pcc_9 | exact pcc_10 | exact pcc_11 | exact pcc_12 | exact pcc_13 | exact pcc_14 | exact pcc_15 | exact pcc_22) (by rfl) ?_
  refine z_iconst (v := nI 4) (by decide) (pc' := 11) 5 rfl rfl ?_
  refine z_il5 (pc' := 13) 6 rfl rfl ?_
  first | refine z_imulN (pc' := 14) 7 rfl rfl ?_ | refine z_imul (pc' := 14) 7 rfl rfl ?_
  refine z_il1 (pc' := 15) 8 rfl rfl ?_
  refine z_iast (pc' := 16) 9 rfl rfl (by first | exact pcc_5 | exact pcc_6 | exact pcc_7 | exact pcc_8 | exact pcc_9 | exact pcc_10 | exact pcc_11 | exact pcc_12 | exact pcc_13 | exact pcc_14 | exact pcc_15 | exact pcc_22) (by omega) (by decide) ?_
  rw [upd_n, pcc_s22]
  refine z_al0 (pc' := 17) 10 rfl rfl ?_
  refine z_getf (pc' := 20) 11 rfl rfl f_Co_54_3 (by first | exact pcc_5 | exact pcc_6 | exact pcc_7 | exact pcc_8 | exact pcc_9 | exact pcc_10 | exact pcc_11 | exact pcc_12 | exact pcc_13 | exact pcc_14 | exact pcc_15 | exact pcc_22) (by rfl) ?_
  refine z_iconst (v := nI 4) (by decide) (pc' := 21) 12 rfl rfl ?_
  refine z_il5 (pc' := 23) 13 rfl rfl ?_
  first | refine z_imulN (pc' := 24) 14 rfl rfl ?_ | refine z_imul (pc' := 24) 14 rfl rfl ?_
  refine z_iconst (v := nI 1) (by decide) (pc' := 25) 15 rfl rfl ?_
  first | refine z_iaddN (pc' := 26) 16 rfl rfl ?_ | refine z_iadd (pc' := 26) 16 rfl rfl ?_
  refine z_il2 (pc' := 27) 17 rfl rfl ?_
  refine z_iast (pc' := 28) 18 rfl rfl (by first | exact pcc_5 | exact pcc_6 | exact pcc_7 | exact pcc_8 | exact pcc_9 | exact pcc_10 | exact pcc_11 | exact pcc_12 | exact pcc_13 | exact pcc_14 | exact pcc_15 | exact pcc_22) (by omega) (by decide) ?_
  rw [upd_n, pcc_s22]
  refine z_al0 (pc' := 29) 19 rfl rfl ?_
  refine z_getf (pc' := 32) 20 rfl rfl f_Co_54_3 (by first | exact pcc_5 | exact pcc_6 | exact pcc_7 | exact pcc_8 | exact pcc_9 | exact pcc_10 | exact pcc_11 | exact pcc_12 | exact pcc_13 | exact pcc_14 | exact pcc_15 | exact pcc_22) (by rfl) ?_
  refine z_iconst (v := nI 4) (by decide) (pc' := 33) 21 rfl rfl ?_
  refine z_il5 (pc' := 35) 22 rfl rfl ?_
  first | refine z_imulN (pc' := 36) 23 rfl rfl ?_ | refine z_imul (pc' := 36) 23 rfl rfl ?_
  refine z_iconst (v := nI 2) (by decide) (pc' := 37) 24 rfl rfl ?_
  first | refine z_iaddN (pc' := 38) 25 rfl rfl ?_ | refine z_iadd (pc' := 38) 25 rfl rfl ?_
  refine z_il3 (pc' := 39) 26 rfl rfl ?_
  refine z_iast (pc' := 40) 27 rfl rfl (by first | exact pcc_5 | exact pcc_6 | exact pcc_7 | exact pcc_8 | exact pcc_9 | exact pcc_10 | exact pcc_11 | exact pcc_12 | exact pcc_13 | exact pcc_14 | exact pcc_15 | exact pcc_22) (by omega) (by decide) ?_
  rw [upd_n, pcc_s22]
  refine z_al0 (pc' := 41) 28 rfl rfl ?_
  refine z_getf (pc' := 44) 29 rfl rfl f_Co_54_3 (by first | exact pcc_5 | exact pcc_6 | exact pcc_7 | exact pcc_8 | exact pcc_9 | exact pcc_10 | exact pcc_11 | exact pcc_12 | exact pcc_13 | exact pcc_14 | exact pcc_15 | exact pcc_22) (by rfl) ?_
  refine z_iconst (v := nI 4) (by decide) (pc' := 45) 30 rfl rfl ?_
  refine z_il5 (pc' := 47) 31 rfl rfl ?_
  first | refine z_imulN (pc' := 48) 32 rfl rfl ?_ | refine z_imul (pc' := 48) 32 rfl rfl ?_
  refine z_iconst (v := nI 3) (by decide) (pc' := 49) 33 rfl rfl ?_
  first | refine z_iaddN (pc' := 50) 34 rfl rfl ?_ | refine z_iadd (pc' := 50) 34 rfl rfl ?_
  refine z_il4 (pc' := 52) 35 rfl rfl ?_
  refine z_iast (pc' := 53) 36 rfl rfl (by first | exact pcc_5 | exact pcc_6 | exact pcc_7 | exact pcc_8 | exact pcc_9 | exact pcc_10 | exact pcc_11 | exact pcc_12 | exact pcc_13 | exact pcc_14 | exact pcc_15 | exact pcc_22) (by omega) (by decide) ?_
  rw [upd_n, pcc_s22]
  refine z_al0 (pc' := 54) 37 rfl rfl ?_
  refine z_dup rfl (pc' := 55) 38 rfl rfl ?_
  refine z_getf (pc' := 58) 39 rfl rfl f_Co_82_3 (by first | exact pcc_5 | exact pcc_6 | exact pcc_7 | exact pcc_8 | exact pcc_9 | exact pcc_10 | exact pcc_11 | exact pcc_12 | exact pcc_13 | exact pcc_14 | exact pcc_15 | exact pcc_22) (by rfl) ?_
  refine z_iconst (v := nI 1) (by decide) (pc' := 59) 40 rfl rfl ?_
  first | refine z_iaddN (pc' := 60) 41 rfl rfl ?_ | refine z_iadd (pc' := 60) 41 rfl rfl ?_
  refine z_putf (pc' := 63) 42 rfl rfl f_Co_82_3 (by first | exact pcc_5 | exact pcc_6 | exact pcc_7 | exact pcc_8 | exact pcc_9 | exact pcc_10 | exact pcc_11 | exact pcc_12 | exact pcc_13 | exact pcc_14 | exact pcc_15 | exact pcc_22) rfl rfl (by rfl) (by rfl) ?_
  dsimp only [List.set]
  rw [ob5_nr, pcc_s5 un0]
  refine z_il5 (pc' := 65) 43 rfl rfl ?_
  exact z_ireturn 44 rfl rfl (by first | rfl | exact zbo_nar) rfl rfl (by refine ⟨rfl, ?_⟩; rw [un_un, un_un, un_un]; rfl)
set_option maxHeartbeats 4000000 in
set_option maxRecDepth 100000 in
theorem c_Co_isOver {G : zG} {n u : Nat} {ν : Nat → va_E} {S : Nat → Nat → Nat} {sc ch : Int32} {mo cs : Nat} {pr fa q : Nat → Nat} (hi : iS S) (hm : mo ≤ 16) : zMet G 0 M_Co_isOver [.ref 5] n u (pcc ν S sc ch mo cs pr fa q) n u (zE (some (.int (zbo (S 0 3 ≤ mo)))) (pcc ν S sc ch mo cs pr fa q)) := by
  have hi3 := hi.2.2.2.2.1
  refine z_start (lv := [.ref 5]) K_Co_isOver rfl rfl (Nat.le_refl _) (Nat.le_refl _) (Nat.le_of_ble_eq_true rfl) rfl ?_
  refine z_al0 (pc' := 1) 0 rfl rfl ?_
  refine z_getf (pc' := 4) 1 rfl rfl f_Co_43_3 (by first | exact pcc_5 | exact pcc_6 | exact pcc_7 | exact pcc_8 | exact pcc_9 | exact pcc_10 | exact pcc_11 | exact pcc_12 | exact pcc_13 | exact pcc_14 | exact pcc_15 | exact pcc_22) (by rfl) ?_
  refine z_getf (pc' := 7) 2 rfl rfl f_Co_85_4 (by first | exact pcc_5 | exact pcc_6 | exact pcc_7 | exact pcc_8 | exact pcc_9 | exact pcc_10 | exact pcc_11 | exact pcc_12 | exact pcc_13 | exact pcc_14 | exact pcc_15 | exact pcc_22) (by rfl) ?_
  refine z_al0 (pc' := 8) 3 rfl rfl ?_
  refine z_getf (pc' := 11) 4 rfl rfl f_Co_33_3 (by first | exact pcc_5 | exact pcc_6 | exact pcc_7 | exact pcc_8 | exact pcc_9 | exact pcc_10 | exact pcc_11 | exact pcc_12 | exact pcc_13 | exact pcc_14 | exact pcc_15 | exact pcc_22) (by rfl) ?_
  first | refine z_icmp_ltN (pc' := 14) 5 rfl rfl (tgt := 18) rfl (by omega) (by omega) (fun h11 => ?_) (fun h11 => ?_) | refine z_icmp_lt (pc' := 14) 5 rfl rfl (tgt := 18) rfl (fun h11 => ?_) (fun h11 => ?_)
  · refine z_iconst (v := nI 0) (by decide) (pc' := 19) 8 rfl rfl ?_
    exact z_ireturn 9 rfl rfl (by first | rfl | exact zbo_nar) rfl rfl (by exact ⟨by rw [zbo_f (by omega)], rfl⟩)
  · refine z_iconst (v := nI 1) (by decide) (pc' := 15) 6 rfl rfl ?_
    refine z_goto 7 rfl (tgt := 19) rfl ?_
    exact z_ireturn 9 rfl rfl (by first | rfl | exact zbo_nar) rfl rfl (by exact ⟨by rw [zbo_t h11], rfl⟩)
set_option maxHeartbeats 4000000 in
set_option maxRecDepth 100000 in
theorem c_Wb_wind {G : zG} {n u : Nat} {μ : Nat → va_E} {κ : zκ} {kp : Int32} {ac : Value} (h : cst μ κ) (hob : isOb μ kp ac) (x y z v : Int32) :
    zMet G 1 M_Wb_wind [.ref 4, .int x, .int y, .int z, .int v] n u μ n u (cK μ (f_wind κ x y z v)) := by
  obtain ⟨S, mo, pr, fa, sc, ch, rc, D⟩ := κ
  have hst := h
  obtain ⟨h1, ⟨cs, q, h2⟩, ⟨β, its, h3, h3a, h3b⟩, ⟨c23, h4⟩, h5⟩ := h
  have hk5 := h5
  obtain ⟨hi, hx, hmo, hrc⟩ := h5
  have hi0 := hi.1
  have hi1 := hi.2.1
  have hi2 := hi.2.2.1
  have hi3 := hi.2.2.2.2.1
  refine z_start (lv := [.ref 4, .int x, .int y, .int z, .int v]) K_Wb_wind rfl rfl (Nat.le_refl _) (Nat.le_refl _) (Nat.le_of_ble_eq_true rfl) rfl ?_
  unfold isOb at hob
  refine z_mu (pcc_id h1 h2).symm ?_
  refine z_il1 (pc' := 1) 0 rfl rfl ?_
  refine z_iconst (v := nI 0) (by decide) (pc' := 2) 1 rfl rfl ?_
  refine z_bipush (v := nI 7) (by decide) (pc' := 4) 2 rfl rfl ?_
  refine z_callS1 (pc' := 7) 3 rfl rfl k_Wb_72 (c_Wb_within _ _ _) (by decide) (Nat.le_refl _) (Nat.le_refl _) rfl rfl (Nat.le_of_ble_eq_true rfl) ?_
  first | refine z_if_eqB (pc' := 10) 4 rfl rfl (tgt := 41) rfl (fun h7 => ?_) (fun h7 => ?_) | refine z_if_eqN (pc' := 10) 4 rfl rfl (tgt := 41) rfl (by omega) (fun h7 => ?_) (fun h7 => ?_) | refine z_if_eq (pc' := 10) 4 rfl rfl (tgt := 41) rfl (fun h7 => ?_) (fun h7 => ?_)
  · refine z_iconst (v := (-1)) (by decide) (pc' := 42) 20 rfl rfl ?_
    exact z_ireturn 21 rfl rfl (by first | rfl | exact zbo_nar) rfl rfl (by show cK μ _ _ _; rw [f_wind, if_neg (fun z0 => h7 z0.1)]; exact cK_of hst rfl rfl (hk5))
  · refine z_il2 (pc' := 11) 5 rfl rfl ?_
    refine z_iconst (v := nI 1) (by decide) (pc' := 12) 6 rfl rfl ?_
    refine z_bipush (v := nI 9) (by decide) (pc' := 14) 7 rfl rfl ?_
    refine z_callS1 (pc' := 17) 8 rfl rfl k_Wb_72 (c_Wb_within _ _ _) (by decide) (Nat.le_refl _) (Nat.le_refl _) rfl rfl (Nat.le_of_ble_eq_true rfl) ?_
    first | refine z_if_eqB (pc' := 20) 9 rfl rfl (tgt := 41) rfl (fun h17 => ?_) (fun h17 => ?_) | refine z_if_eqN (pc' := 20) 9 rfl rfl (tgt := 41) rfl (by omega) (fun h17 => ?_) (fun h17 => ?_) | refine z_if_eq (pc' := 20) 9 rfl rfl (tgt := 41) rfl (fun h17 => ?_) (fun h17 => ?_)
    · refine z_iconst (v := (-1)) (by decide) (pc' := 42) 20 rfl rfl ?_
      exact z_ireturn 21 rfl rfl (by first | rfl | exact zbo_nar) rfl rfl (by show cK μ _ _ _; rw [f_wind, if_neg (fun z0 => h17 z0.2.1)]; exact cK_of hst rfl rfl (hk5))
    · refine z_il3 (pc' := 21) 10 rfl rfl ?_
      refine z_iconst (v := nI 0) (by decide) (pc' := 22) 11 rfl rfl ?_
      refine z_bipush (v := nI 15) (by decide) (pc' := 24) 12 rfl rfl ?_
      refine z_callS1 (pc' := 27) 13 rfl rfl k_Wb_72 (c_Wb_within _ _ _) (by decide) (Nat.le_refl _) (Nat.le_refl _) rfl rfl (Nat.le_of_ble_eq_true rfl) ?_
      first | refine z_if_eqB (pc' := 30) 14 rfl rfl (tgt := 41) rfl (fun h27 => ?_) (fun h27 => ?_) | refine z_if_eqN (pc' := 30) 14 rfl rfl (tgt := 41) rfl (by omega) (fun h27 => ?_) (fun h27 => ?_) | refine z_if_eq (pc' := 30) 14 rfl rfl (tgt := 41) rfl (fun h27 => ?_) (fun h27 => ?_)
      · refine z_iconst (v := (-1)) (by decide) (pc' := 42) 20 rfl rfl ?_
        exact z_ireturn 21 rfl rfl (by first | rfl | exact zbo_nar) rfl rfl (by show cK μ _ _ _; rw [f_wind, if_neg (fun z0 => h27 z0.2.2.1)]; exact cK_of hst rfl rfl (hk5))
      · refine z_il4 (pc' := 32) 15 rfl rfl ?_
        refine z_il3 (pc' := 33) 16 rfl rfl ?_
        refine z_bipush (v := nI 15) (by decide) (pc' := 35) 17 rfl rfl ?_
        refine z_callS1 (pc' := 38) 18 rfl rfl k_Wb_72 (c_Wb_within _ _ _) (by decide) (Nat.le_refl _) (Nat.le_refl _) rfl rfl (Nat.le_of_ble_eq_true rfl) ?_
        first | refine z_if_neB (pc' := 41) 19 rfl rfl (tgt := 43) rfl (fun h38 => ?_) (fun h38 => ?_) | refine z_if_neN (pc' := 41) 19 rfl rfl (tgt := 43) rfl (by omega) (fun h38 => ?_) (fun h38 => ?_) | refine z_if_ne (pc' := 41) 19 rfl rfl (tgt := 43) rfl (fun h38 => ?_) (fun h38 => ?_)
        · obtain ⟨x1, hx1, hx2, rfl⟩ := z_wi h7 (by decide) (by decide)
          obtain ⟨y1, hy1, hy2, rfl⟩ := z_wi h17 (by decide) (by decide)
          obtain ⟨z1, hz1, hz2, rfl⟩ := z_wi h27 (by decide) (by decide)
          obtain ⟨v1, hv1, hv2, rfl⟩ := z_wi h38 (by decide) (by omega)
          refine z_al0 (pc' := 44) 22 rfl rfl ?_
          refine z_getf (pc' := 47) 23 rfl rfl f_Wb_10_11 (by first | exact pcc_5 | exact pcc_6 | exact pcc_7 | exact pcc_8 | exact pcc_9 | exact pcc_10 | exact pcc_11 | exact pcc_12 | exact pcc_13 | exact pcc_14 | exact pcc_15 | exact pcc_22 | (rw [pcc_o (by decide)]; assumption)) (by rfl) ?_
          refine z_getf (pc' := 50) 24 rfl rfl f_Wb_110_3 (by first | exact pcc_5 | exact pcc_6 | exact pcc_7 | exact pcc_8 | exact pcc_9 | exact pcc_10 | exact pcc_11 | exact pcc_12 | exact pcc_13 | exact pcc_14 | exact pcc_15 | exact pcc_22 | (rw [pcc_o (by decide)]; assumption)) (by rfl) ?_
          refine z_bipush (v := nI 6) (by decide) (pc' := 52) 25 rfl rfl ?_
          first | refine z_icmp_neN (pc' := 55) 26 rfl rfl (tgt := 58) rfl (by omega) (by omega) (fun h52 => ?_) (fun h52 => ?_) | refine z_icmp_ne (pc' := 55) 26 rfl rfl (tgt := 58) rfl (fun h52 => ?_) (fun h52 => ?_)
          · refine z_al0 (pc' := 59) 29 rfl rfl ?_
            refine z_getf (pc' := 62) 30 rfl rfl f_Wb_10_11 (by first | exact pcc_5 | exact pcc_6 | exact pcc_7 | exact pcc_8 | exact pcc_9 | exact pcc_10 | exact pcc_11 | exact pcc_12 | exact pcc_13 | exact pcc_14 | exact pcc_15 | exact pcc_22 | (rw [pcc_o (by decide)]; assumption)) (by rfl) ?_
            refine z_il1 (pc' := 63) 31 rfl rfl ?_
            refine z_il2 (pc' := 64) 32 rfl rfl ?_
            refine z_il3 (pc' := 65) 33 rfl rfl ?_
            refine z_il4 (pc' := 67) 34 rfl rfl ?_
            refine z_callV1 (pc' := 70) 35 rfl rfl k_Wb_113 (by first | exact pcc_5 | exact pcc_6 | exact pcc_7 | exact pcc_8 | exact pcc_9 | exact pcc_10 | exact pcc_11 | exact pcc_12 | exact pcc_13 | exact pcc_14 | exact pcc_15 | exact pcc_22 | (rw [pcc_o (by decide)]; assumption)) (c_Co_addWind hi (by omega)) (by decide) (Nat.le_refl _) (Nat.le_refl _) rfl rfl (Nat.le_of_ble_eq_true rfl) ?_
            exact z_ireturn 36 rfl rfl (by first | rfl | exact zbo_nar) rfl rfl (by show cK μ _ _ _; rw [f_wind, if_pos ⟨h7, h17, h27, h38⟩, if_neg h52, tN_n (by omega), tN_n (by omega), tN_n (by omega), tN_n (by omega)]; exact cK_of hst rfl rfl (⟨wS'_ok hi (by omega) hx2 hy2 hz2 hv2, wX'_ok hx, hmo, hrc⟩))
          · refine z_bipush (v := (-2)) (by decide) (pc' := 57) 27 rfl rfl ?_
            exact z_ireturn 28 rfl rfl (by first | rfl | exact zbo_nar) rfl rfl (by show cK μ _ _ _; rw [f_wind, if_pos ⟨h7, h17, h27, h38⟩, if_pos h52]; exact cK_of hst rfl rfl (hk5))
        · refine z_iconst (v := (-1)) (by decide) (pc' := 42) 20 rfl rfl ?_
          exact z_ireturn 21 rfl rfl (by first | rfl | exact zbo_nar) rfl rfl (by show cK μ _ _ _; rw [f_wind, if_neg (fun z0 => h38 z0.2.2.2)]; exact cK_of hst rfl rfl (hk5))
set_option maxHeartbeats 4000000 in
set_option maxRecDepth 100000 in
theorem c_Mo_wind {G : zG} {n u : Nat} {μ : Nat → va_E} {κ : zκ} {s : Nat → Int32} (h : mst μ s κ) (x y z v : Int32) :
    zMet G 1 M_Mo_wind [.ref 88, .int x, .int y, .int z, .int v] n u μ n u (mK μ s (f_wind κ x y z v)) := by
  obtain ⟨S, mo, pr, fa, sc, ch, rc, D⟩ := κ
  have hst := h
  obtain ⟨⟨ρ, h1, hD⟩, h2, ⟨q93, h93⟩, ⟨q91, h91⟩, ⟨q94, h94⟩, ⟨q95, h95⟩, ⟨q96, h96⟩, ⟨q97, h97⟩, h5⟩ := h
  have hk5 := h5
  obtain ⟨hi, hx, hmo, hrc⟩ := h5
  have hi0 := hi.1
  have hi1 := hi.2.1
  have hi2 := hi.2.2.1
  have hi3 := hi.2.2.2.2.1
  have hm16 : mo ≤ 16 := by omega
  refine z_start (lv := [.ref 88, .int x, .int y, .int z, .int v, .retAddr 0]) K_Mo_wind rfl rfl (Nat.le_refl _) (Nat.le_refl _) (Nat.le_of_ble_eq_true rfl) rfl ?_
  refine z_mu (show μ = pm (zu (zu μ 91 (.inl (0, 618, .inl q91))) 93 (.inl (1, 100, .inl q93))) s (mk S mo pr fa sc ch rc ρ) by rw [zu_id h91, zu_id h93, pm_id h2 h1]) ?_
  refine z_il1 (pc' := 1) 0 rfl rfl ?_
  refine z_iconst (v := nI 0) (by decide) (pc' := 2) 1 rfl rfl ?_
  refine z_bipush (v := nI 7) (by decide) (pc' := 4) 2 rfl rfl ?_
  refine z_callS1 (pc' := 7) 3 rfl rfl k_Mo_67 (c_Mo_in _ _ _) (by decide) (Nat.le_refl _) (Nat.le_refl _) rfl rfl (Nat.le_of_ble_eq_true rfl) ?_
  first | refine z_if_eqB (pc' := 10) 4 rfl rfl (tgt := 41) rfl (fun h7 => ?_) (fun h7 => ?_) | refine z_if_eqN (pc' := 10) 4 rfl rfl (tgt := 41) rfl (by omega) (fun h7 => ?_) (fun h7 => ?_) | refine z_if_eq (pc' := 10) 4 rfl rfl (tgt := 41) rfl (fun h7 => ?_) (fun h7 => ?_)
  · refine z_iconst (v := (-1)) (by decide) (pc' := 42) 20 rfl rfl ?_
    exact z_ireturn 21 rfl rfl (by first | rfl | exact zbo_nar) rfl rfl (by show mK μ s _ _ _; rw [f_wind, if_neg (fun z0 => h7 z0.1)]; exact mK_of3 hst (sEq_r) hD (hk5))
  · refine z_il2 (pc' := 11) 5 rfl rfl ?_
    refine z_iconst (v := nI 1) (by decide) (pc' := 12) 6 rfl rfl ?_
    refine z_bipush (v := nI 9) (by decide) (pc' := 14) 7 rfl rfl ?_
    refine z_callS1 (pc' := 17) 8 rfl rfl k_Mo_67 (c_Mo_in _ _ _) (by decide) (Nat.le_refl _) (Nat.le_refl _) rfl rfl (Nat.le_of_ble_eq_true rfl) ?_
    first | refine z_if_eqB (pc' := 20) 9 rfl rfl (tgt := 41) rfl (fun h17 => ?_) (fun h17 => ?_) | refine z_if_eqN (pc' := 20) 9 rfl rfl (tgt := 41) rfl (by omega) (fun h17 => ?_) (fun h17 => ?_) | refine z_if_eq (pc' := 20) 9 rfl rfl (tgt := 41) rfl (fun h17 => ?_) (fun h17 => ?_)
    · refine z_iconst (v := (-1)) (by decide) (pc' := 42) 20 rfl rfl ?_
      exact z_ireturn 21 rfl rfl (by first | rfl | exact zbo_nar) rfl rfl (by show mK μ s _ _ _; rw [f_wind, if_neg (fun z0 => h17 z0.2.1)]; exact mK_of3 hst (sEq_r) hD (hk5))
    · refine z_il3 (pc' := 21) 10 rfl rfl ?_
      refine z_iconst (v := nI 0) (by decide) (pc' := 22) 11 rfl rfl ?_
      refine z_bipush (v := nI 15) (by decide) (pc' := 24) 12 rfl rfl ?_
      refine z_callS1 (pc' := 27) 13 rfl rfl k_Mo_67 (c_Mo_in _ _ _) (by decide) (Nat.le_refl _) (Nat.le_refl _) rfl rfl (Nat.le_of_ble_eq_true rfl) ?_
      first | refine z_if_eqB (pc' := 30) 14 rfl rfl (tgt := 41) rfl (fun h27 => ?_) (fun h27 => ?_) | refine z_if_eqN (pc' := 30) 14 rfl rfl (tgt := 41) rfl (by omega) (fun h27 => ?_) (fun h27 => ?_) | refine z_if_eq (pc' := 30) 14 rfl rfl (tgt := 41) rfl (fun h27 => ?_) (fun h27 => ?_)
      · refine z_iconst (v := (-1)) (by decide) (pc' := 42) 20 rfl rfl ?_
        exact z_ireturn 21 rfl rfl (by first | rfl | exact zbo_nar) rfl rfl (by show mK μ s _ _ _; rw [f_wind, if_neg (fun z0 => h27 z0.2.2.1)]; exact mK_of3 hst (sEq_r) hD (hk5))
      · refine z_il4 (pc' := 32) 15 rfl rfl ?_
        refine z_il3 (pc' := 33) 16 rfl rfl ?_
        refine z_bipush (v := nI 15) (by decide) (pc' := 35) 17 rfl rfl ?_
        refine z_callS1 (pc' := 38) 18 rfl rfl k_Mo_67 (c_Mo_in _ _ _) (by decide) (Nat.le_refl _) (Nat.le_refl _) rfl rfl (Nat.le_of_ble_eq_true rfl) ?_
        first | refine z_if_neB (pc' := 41) 19 rfl rfl (tgt := 43) rfl (fun h38 => ?_) (fun h38 => ?_) | refine z_if_neN (pc' := 41) 19 rfl rfl (tgt := 43) rfl (by omega) (fun h38 => ?_) (fun h38 => ?_) | refine z_if_ne (pc' := 41) 19 rfl rfl (tgt := 43) rfl (fun h38 => ?_) (fun h38 => ?_)
        · obtain ⟨x1, hx1, hx2, rfl⟩ := z_wi h7 (by decide) (by decide)
          obtain ⟨y1, hy1, hy2, rfl⟩ := z_wi h17 (by decide) (by decide)
          obtain ⟨z1, hz1, hz2, rfl⟩ := z_wi h27 (by decide) (by decide)
          obtain ⟨v1, hv1, hv2, rfl⟩ := z_wi h38 (by decide) (by omega)
          refine z_al0 (pc' := 44) 22 rfl rfl ?_
          refine z_getf (pc' := 47) 23 rfl rfl f_Mo_9_12 (by first | exact pm_f | exact pm_1 | (rw [pm_o (by decide)]; first | exact zu_s | (rw [zu_n (by decide)]; first | exact zu_s | (rw [zu_n (by decide)]; assumption)))) (by rfl) ?_
          refine z_iconst (v := nI 2) (by decide) (pc' := 48) 24 rfl rfl ?_
          refine z_iald (pc' := 49) 25 rfl rfl (by first | exact pm_f | exact pm_1 | (rw [pm_o (by decide)]; first | exact zu_s | (rw [zu_n (by decide)]; first | exact zu_s | (rw [zu_n (by decide)]; assumption)))) (by omega) (by decide) ?_
          rw [mk_2]
          refine z_is5 rfl rfl (pc' := 51) 26 rfl rfl ?_
          refine z_il5 (pc' := 53) 27 rfl rfl ?_
          refine z_bipush (v := nI 6) (by decide) (pc' := 55) 28 rfl rfl ?_
          first | refine z_icmp_neN (pc' := 58) 29 rfl rfl (tgt := 61) rfl (by omega) (by omega) (fun h55 => ?_) (fun h55 => ?_) | refine z_icmp_ne (pc' := 58) 29 rfl rfl (tgt := 61) rfl (fun h55 => ?_) (fun h55 => ?_)
          · refine z_al0 (pc' := 62) 32 rfl rfl ?_
            refine z_getf (pc' := 65) 33 rfl rfl f_Mo_9_12 (by first | exact pm_f | exact pm_1 | (rw [pm_o (by decide)]; first | exact zu_s | (rw [zu_n (by decide)]; first | exact zu_s | (rw [zu_n (by decide)]; assumption)))) (by rfl) ?_
            refine z_iconst (v := nI 2) (by decide) (pc' := 66) 34 rfl rfl ?_
            refine z_dup2 rfl rfl (pc' := 67) 35 rfl rfl ?_
            refine z_iald (pc' := 68) 36 rfl rfl (by first | exact pm_f | exact pm_1 | (rw [pm_o (by decide)]; first | exact zu_s | (rw [zu_n (by decide)]; first | exact zu_s | (rw [zu_n (by decide)]; assumption)))) (by omega) (by decide) ?_
            rw [mk_2]
            refine z_iconst (v := nI 1) (by decide) (pc' := 69) 37 rfl rfl ?_
            first | refine z_iaddN (pc' := 70) 38 rfl rfl ?_ | refine z_iadd (pc' := 70) 38 rfl rfl ?_
            refine z_iast (pc' := 71) 39 rfl rfl (by first | exact pm_f | exact pm_1 | (rw [pm_o (by decide)]; first | exact zu_s | (rw [zu_n (by decide)]; first | exact zu_s | (rw [zu_n (by decide)]; assumption)))) (by omega) (by decide) ?_
            rw [mk_u_nw, pm_s1]
            refine z_al0 (pc' := 72) 40 rfl rfl ?_
            refine z_getf (pc' := 75) 41 rfl rfl f_Mo_9_12 (by first | exact pm_f | exact pm_1 | (rw [pm_o (by decide)]; first | exact zu_s | (rw [zu_n (by decide)]; first | exact zu_s | (rw [zu_n (by decide)]; assumption)))) (by rfl) ?_
            refine z_bipush (v := nI 8) (by decide) (pc' := 77) 42 rfl rfl ?_
            refine z_iconst (v := nI 4) (by decide) (pc' := 78) 43 rfl rfl ?_
            refine z_il5 (pc' := 80) 44 rfl rfl ?_
            first | refine z_imulN (pc' := 81) 45 rfl rfl ?_ | refine z_imul (pc' := 81) 45 rfl rfl ?_
            first | refine z_iaddN (pc' := 82) 46 rfl rfl ?_ | refine z_iadd (pc' := 82) 46 rfl rfl ?_
            refine z_il1 (pc' := 83) 47 rfl rfl ?_
            refine z_iast (pc' := 84) 48 rfl rfl (by first | exact pm_f | exact pm_1 | (rw [pm_o (by decide)]; first | exact zu_s | (rw [zu_n (by decide)]; first | exact zu_s | (rw [zu_n (by decide)]; assumption)))) (by omega) (by decide) ?_
            rw [← Nat.add_zero (8 + 4 * S 0 1), mk_u_w0 (by omega), pm_s1]
            refine z_al0 (pc' := 85) 49 rfl rfl ?_
            refine z_getf (pc' := 88) 50 rfl rfl f_Mo_9_12 (by first | exact pm_f | exact pm_1 | (rw [pm_o (by decide)]; first | exact zu_s | (rw [zu_n (by decide)]; first | exact zu_s | (rw [zu_n (by decide)]; assumption)))) (by rfl) ?_
            refine z_bipush (v := nI 8) (by decide) (pc' := 90) 51 rfl rfl ?_
            refine z_iconst (v := nI 4) (by decide) (pc' := 91) 52 rfl rfl ?_
            refine z_il5 (pc' := 93) 53 rfl rfl ?_
            first | refine z_imulN (pc' := 94) 54 rfl rfl ?_ | refine z_imul (pc' := 94) 54 rfl rfl ?_
            first | refine z_iaddN (pc' := 95) 55 rfl rfl ?_ | refine z_iadd (pc' := 95) 55 rfl rfl ?_
            refine z_iconst (v := nI 1) (by decide) (pc' := 96) 56 rfl rfl ?_
            first | refine z_iaddN (pc' := 97) 57 rfl rfl ?_ | refine z_iadd (pc' := 97) 57 rfl rfl ?_
            refine z_il2 (pc' := 98) 58 rfl rfl ?_
            refine z_iast (pc' := 99) 59 rfl rfl (by first | exact pm_f | exact pm_1 | (rw [pm_o (by decide)]; first | exact zu_s | (rw [zu_n (by decide)]; first | exact zu_s | (rw [zu_n (by decide)]; assumption)))) (by omega) (by decide) ?_
            rw [mk_u_w1 (by omega), pm_s1]
            refine z_al0 (pc' := 100) 60 rfl rfl ?_
            refine z_getf (pc' := 103) 61 rfl rfl f_Mo_9_12 (by first | exact pm_f | exact pm_1 | (rw [pm_o (by decide)]; first | exact zu_s | (rw [zu_n (by decide)]; first | exact zu_s | (rw [zu_n (by decide)]; assumption)))) (by rfl) ?_
            refine z_bipush (v := nI 8) (by decide) (pc' := 105) 62 rfl rfl ?_
            refine z_iconst (v := nI 4) (by decide) (pc' := 106) 63 rfl rfl ?_
            refine z_il5 (pc' := 108) 64 rfl rfl ?_
            first | refine z_imulN (pc' := 109) 65 rfl rfl ?_ | refine z_imul (pc' := 109) 65 rfl rfl ?_
            first | refine z_iaddN (pc' := 110) 66 rfl rfl ?_ | refine z_iadd (pc' := 110) 66 rfl rfl ?_
            refine z_iconst (v := nI 2) (by decide) (pc' := 111) 67 rfl rfl ?_
            first | refine z_iaddN (pc' := 112) 68 rfl rfl ?_ | refine z_iadd (pc' := 112) 68 rfl rfl ?_
            refine z_il3 (pc' := 113) 69 rfl rfl ?_
            refine z_iast (pc' := 114) 70 rfl rfl (by first | exact pm_f | exact pm_1 | (rw [pm_o (by decide)]; first | exact zu_s | (rw [zu_n (by decide)]; first | exact zu_s | (rw [zu_n (by decide)]; assumption)))) (by omega) (by decide) ?_
            rw [mk_u_w2 (by omega), pm_s1]
            refine z_al0 (pc' := 115) 71 rfl rfl ?_
            refine z_getf (pc' := 118) 72 rfl rfl f_Mo_9_12 (by first | exact pm_f | exact pm_1 | (rw [pm_o (by decide)]; first | exact zu_s | (rw [zu_n (by decide)]; first | exact zu_s | (rw [zu_n (by decide)]; assumption)))) (by rfl) ?_
            refine z_bipush (v := nI 8) (by decide) (pc' := 120) 73 rfl rfl ?_
            refine z_iconst (v := nI 4) (by decide) (pc' := 121) 74 rfl rfl ?_
            refine z_il5 (pc' := 123) 75 rfl rfl ?_
            first | refine z_imulN (pc' := 124) 76 rfl rfl ?_ | refine z_imul (pc' := 124) 76 rfl rfl ?_
            first | refine z_iaddN (pc' := 125) 77 rfl rfl ?_ | refine z_iadd (pc' := 125) 77 rfl rfl ?_
            refine z_iconst (v := nI 3) (by decide) (pc' := 126) 78 rfl rfl ?_
            first | refine z_iaddN (pc' := 127) 79 rfl rfl ?_ | refine z_iadd (pc' := 127) 79 rfl rfl ?_
            refine z_il4 (pc' := 129) 80 rfl rfl ?_
            refine z_iast (pc' := 130) 81 rfl rfl (by first | exact pm_f | exact pm_1 | (rw [pm_o (by decide)]; first | exact zu_s | (rw [zu_n (by decide)]; first | exact zu_s | (rw [zu_n (by decide)]; assumption)))) (by omega) (by decide) ?_
            rw [mk_u_w3 (by omega), pm_s1, un5]
            refine z_il5 (pc' := 132) 82 rfl rfl ?_
            exact z_ireturn 83 rfl rfl (by first | rfl | exact zbo_nar) rfl rfl (by show mK μ s _ _ _; rw [f_wind, if_pos ⟨h7, h17, h27, h38⟩, if_neg h55, tN_n (by omega), tN_n (by omega), tN_n (by omega), tN_n (by omega)]; exact mK_of3 hst (sEq_r) hD (⟨wS'_ok hi (by omega) hx2 hy2 hz2 hv2, wX'_ok hx, hmo, hrc⟩))
          · refine z_bipush (v := (-2)) (by decide) (pc' := 60) 30 rfl rfl ?_
            exact z_ireturn 31 rfl rfl (by first | rfl | exact zbo_nar) rfl rfl (by show mK μ s _ _ _; rw [f_wind, if_pos ⟨h7, h17, h27, h38⟩, if_pos h55]; exact mK_of3 hst (sEq_r) hD (hk5))
        · refine z_iconst (v := (-1)) (by decide) (pc' := 42) 20 rfl rfl ?_
          exact z_ireturn 21 rfl rfl (by first | rfl | exact zbo_nar) rfl rfl (by show mK μ s _ _ _; rw [f_wind, if_neg (fun z0 => h38 z0.2.2.2)]; exact mK_of3 hst (sEq_r) hD (hk5))
set_option maxHeartbeats 4000000 in
set_option maxRecDepth 100000 in
theorem c_Wb_report {G : zG} {n u : Nat} {μ : Nat → va_E} {κ : zκ} {kp : Int32} {ac : Value} (h : cst μ κ) (hob : isOb μ kp ac) (x y z v : Int32) :
    zMet G 1 M_Wb_report [.ref 4, .int x, .int y, .int z, .int v] n u μ n u (cK μ (f_report κ x y z v)) := by
  obtain ⟨S, mo, pr, fa, sc, ch, rc, D⟩ := κ
  have hst := h
  obtain ⟨h1, ⟨cs, q, h2⟩, ⟨β, its, h3, h3a, h3b⟩, ⟨c23, h4⟩, h5⟩ := h
  have hk5 := h5
  obtain ⟨hi, hx, hmo, hrc⟩ := h5
  have hi0 := hi.1
  have hi1 := hi.2.1
  have hi2 := hi.2.2.1
  have hi3 := hi.2.2.2.2.1
  refine z_start (lv := [.ref 4, .int x, .int y, .int z, .int v]) K_Wb_report rfl rfl (Nat.le_refl _) (Nat.le_refl _) (Nat.le_of_ble_eq_true rfl) rfl ?_
  unfold isOb at hob
  refine z_mu (pcc_id h1 h2).symm ?_
  refine z_il1 (pc' := 1) 0 rfl rfl ?_
  refine z_iconst (v := nI 1) (by decide) (pc' := 2) 1 rfl rfl ?_
  refine z_iconst (v := nI 5) (by decide) (pc' := 3) 2 rfl rfl ?_
  refine z_callS1 (pc' := 6) 3 rfl rfl k_Wb_72 (c_Wb_within _ _ _) (by decide) (Nat.le_refl _) (Nat.le_refl _) rfl rfl (Nat.le_of_ble_eq_true rfl) ?_
  first | refine z_if_eqB (pc' := 9) 4 rfl rfl (tgt := 40) rfl (fun h6 => ?_) (fun h6 => ?_) | refine z_if_eqN (pc' := 9) 4 rfl rfl (tgt := 40) rfl (by omega) (fun h6 => ?_) (fun h6 => ?_) | refine z_if_eq (pc' := 9) 4 rfl rfl (tgt := 40) rfl (fun h6 => ?_) (fun h6 => ?_)
  · refine z_iconst (v := (-1)) (by decide) (pc' := 41) 20 rfl rfl ?_
    exact z_ireturn 21 rfl rfl (by first | rfl | exact zbo_nar) rfl rfl (by show cK μ _ _ _; rw [f_report, if_neg (fun z0 => h6 z0.1)]; exact cK_of hst rfl rfl (hk5))
  · refine z_il2 (pc' := 10) 5 rfl rfl ?_
    refine z_iconst (v := nI 0) (by decide) (pc' := 11) 6 rfl rfl ?_
    refine z_bipush (v := nI 7) (by decide) (pc' := 13) 7 rfl rfl ?_
    refine z_callS1 (pc' := 16) 8 rfl rfl k_Wb_72 (c_Wb_within _ _ _) (by decide) (Nat.le_refl _) (Nat.le_refl _) rfl rfl (Nat.le_of_ble_eq_true rfl) ?_
    first | refine z_if_eqB (pc' := 19) 9 rfl rfl (tgt := 40) rfl (fun h16 => ?_) (fun h16 => ?_) | refine z_if_eqN (pc' := 19) 9 rfl rfl (tgt := 40) rfl (by omega) (fun h16 => ?_) (fun h16 => ?_) | refine z_if_eq (pc' := 19) 9 rfl rfl (tgt := 40) rfl (fun h16 => ?_) (fun h16 => ?_)
    · refine z_iconst (v := (-1)) (by decide) (pc' := 41) 20 rfl rfl ?_
      exact z_ireturn 21 rfl rfl (by first | rfl | exact zbo_nar) rfl rfl (by show cK μ _ _ _; rw [f_report, if_neg (fun z0 => h16 z0.2.1)]; exact cK_of hst rfl rfl (hk5))
    · refine z_il3 (pc' := 20) 10 rfl rfl ?_
      refine z_iconst (v := nI 0) (by decide) (pc' := 21) 11 rfl rfl ?_
      refine z_bipush (v := nI 99) (by decide) (pc' := 23) 12 rfl rfl ?_
      refine z_callS1 (pc' := 26) 13 rfl rfl k_Wb_72 (c_Wb_within _ _ _) (by decide) (Nat.le_refl _) (Nat.le_refl _) rfl rfl (Nat.le_of_ble_eq_true rfl) ?_
      first | refine z_if_eqB (pc' := 29) 14 rfl rfl (tgt := 40) rfl (fun h26 => ?_) (fun h26 => ?_) | refine z_if_eqN (pc' := 29) 14 rfl rfl (tgt := 40) rfl (by omega) (fun h26 => ?_) (fun h26 => ?_) | refine z_if_eq (pc' := 29) 14 rfl rfl (tgt := 40) rfl (fun h26 => ?_) (fun h26 => ?_)
      · refine z_iconst (v := (-1)) (by decide) (pc' := 41) 20 rfl rfl ?_
        exact z_ireturn 21 rfl rfl (by first | rfl | exact zbo_nar) rfl rfl (by show cK μ _ _ _; rw [f_report, if_neg (fun z0 => h26 z0.2.2.1)]; exact cK_of hst rfl rfl (hk5))
      · refine z_il4 (pc' := 31) 15 rfl rfl ?_
        refine z_il3 (pc' := 32) 16 rfl rfl ?_
        refine z_bipush (v := nI 99) (by decide) (pc' := 34) 17 rfl rfl ?_
        refine z_callS1 (pc' := 37) 18 rfl rfl k_Wb_72 (c_Wb_within _ _ _) (by decide) (Nat.le_refl _) (Nat.le_refl _) rfl rfl (Nat.le_of_ble_eq_true rfl) ?_
        first | refine z_if_neB (pc' := 40) 19 rfl rfl (tgt := 42) rfl (fun h37 => ?_) (fun h37 => ?_) | refine z_if_neN (pc' := 40) 19 rfl rfl (tgt := 42) rfl (by omega) (fun h37 => ?_) (fun h37 => ?_) | refine z_if_ne (pc' := 40) 19 rfl rfl (tgt := 42) rfl (fun h37 => ?_) (fun h37 => ?_)
        · obtain ⟨x1, hx1, hx2, rfl⟩ := z_wi h6 (by decide) (by decide)
          obtain ⟨y1, hy1, hy2, rfl⟩ := z_wi h16 (by decide) (by decide)
          obtain ⟨z1, hz1, hz2, rfl⟩ := z_wi h26 (by decide) (by decide)
          obtain ⟨v1, hv1, hv2, rfl⟩ := z_wi h37 (by decide) (by omega)
          refine z_al0 (pc' := 43) 22 rfl rfl ?_
          refine z_getf (pc' := 46) 23 rfl rfl f_Wb_10_11 (by first | exact pcc_5 | exact pcc_6 | exact pcc_7 | exact pcc_8 | exact pcc_9 | exact pcc_10 | exact pcc_11 | exact pcc_12 | exact pcc_13 | exact pcc_14 | exact pcc_15 | exact pcc_22 | (rw [pcc_o (by decide)]; assumption)) (by rfl) ?_
          refine z_getf (pc' := 49) 24 rfl rfl f_Wb_241_3 (by first | exact pcc_5 | exact pcc_6 | exact pcc_7 | exact pcc_8 | exact pcc_9 | exact pcc_10 | exact pcc_11 | exact pcc_12 | exact pcc_13 | exact pcc_14 | exact pcc_15 | exact pcc_22 | (rw [pcc_o (by decide)]; assumption)) (by rfl) ?_
          refine z_bipush (v := nI 6) (by decide) (pc' := 51) 25 rfl rfl ?_
          first | refine z_icmp_neN (pc' := 54) 26 rfl rfl (tgt := 57) rfl (by omega) (by omega) (fun h51 => ?_) (fun h51 => ?_) | refine z_icmp_ne (pc' := 54) 26 rfl rfl (tgt := 57) rfl (fun h51 => ?_) (fun h51 => ?_)
          · refine z_al0 (pc' := 58) 29 rfl rfl ?_
            refine z_getf (pc' := 61) 30 rfl rfl f_Wb_10_11 (by first | exact pcc_5 | exact pcc_6 | exact pcc_7 | exact pcc_8 | exact pcc_9 | exact pcc_10 | exact pcc_11 | exact pcc_12 | exact pcc_13 | exact pcc_14 | exact pcc_15 | exact pcc_22 | (rw [pcc_o (by decide)]; assumption)) (by rfl) ?_
            refine z_il1 (pc' := 62) 31 rfl rfl ?_
            refine z_il2 (pc' := 63) 32 rfl rfl ?_
            refine z_il3 (pc' := 64) 33 rfl rfl ?_
            refine z_il4 (pc' := 66) 34 rfl rfl ?_
            refine z_callV1 (pc' := 69) 35 rfl rfl k_Wb_244 (by first | exact pcc_5 | exact pcc_6 | exact pcc_7 | exact pcc_8 | exact pcc_9 | exact pcc_10 | exact pcc_11 | exact pcc_12 | exact pcc_13 | exact pcc_14 | exact pcc_15 | exact pcc_22 | (rw [pcc_o (by decide)]; assumption)) (c_Co_addReport hi (by omega)) (by decide) (Nat.le_refl _) (Nat.le_refl _) rfl rfl (Nat.le_of_ble_eq_true rfl) ?_
            exact z_ireturn 36 rfl rfl (by first | rfl | exact zbo_nar) rfl rfl (by show cK μ _ _ _; rw [f_report, if_pos ⟨h6, h16, h26, h37⟩, if_neg h51, tN_n (by omega), tN_n (by omega), tN_n (by omega), tN_n (by omega)]; exact cK_of hst rfl rfl (⟨rS'_ok hi (by omega) (by omega) (by omega) hz2 hv2, hx, hmo, hrc⟩))
          · refine z_bipush (v := (-2)) (by decide) (pc' := 56) 27 rfl rfl ?_
            exact z_ireturn 28 rfl rfl (by first | rfl | exact zbo_nar) rfl rfl (by show cK μ _ _ _; rw [f_report, if_pos ⟨h6, h16, h26, h37⟩, if_pos h51]; exact cK_of hst rfl rfl (hk5))
        · refine z_iconst (v := (-1)) (by decide) (pc' := 41) 20 rfl rfl ?_
          exact z_ireturn 21 rfl rfl (by first | rfl | exact zbo_nar) rfl rfl (by show cK μ _ _ _; rw [f_report, if_neg (fun z0 => h37 z0.2.2.2)]; exact cK_of hst rfl rfl (hk5))
set_option maxHeartbeats 4000000 in
set_option maxRecDepth 100000 in
theorem c_Mo_report {G : zG} {n u : Nat} {μ : Nat → va_E} {κ : zκ} {s : Nat → Int32} (h : mst μ s κ) (x y z v : Int32) :
    zMet G 1 M_Mo_report [.ref 88, .int x, .int y, .int z, .int v] n u μ n u (mK μ s (f_report κ x y z v)) := by
  obtain ⟨S, mo, pr, fa, sc, ch, rc, D⟩ := κ
  have hst := h
  obtain ⟨⟨ρ, h1, hD⟩, h2, ⟨q93, h93⟩, ⟨q91, h91⟩, ⟨q94, h94⟩, ⟨q95, h95⟩, ⟨q96, h96⟩, ⟨q97, h97⟩, h5⟩ := h
  have hk5 := h5
  obtain ⟨hi, hx, hmo, hrc⟩ := h5
  have hi0 := hi.1
  have hi1 := hi.2.1
  have hi2 := hi.2.2.1
  have hi3 := hi.2.2.2.2.1
  have hm16 : mo ≤ 16 := by omega
  refine z_start (lv := [.ref 88, .int x, .int y, .int z, .int v, .retAddr 0]) K_Mo_report rfl rfl (Nat.le_refl _) (Nat.le_refl _) (Nat.le_of_ble_eq_true rfl) rfl ?_
  refine z_mu (show μ = pm (zu (zu μ 91 (.inl (0, 618, .inl q91))) 93 (.inl (1, 100, .inl q93))) s (mk S mo pr fa sc ch rc ρ) by rw [zu_id h91, zu_id h93, pm_id h2 h1]) ?_
  refine z_il1 (pc' := 1) 0 rfl rfl ?_
  refine z_iconst (v := nI 1) (by decide) (pc' := 2) 1 rfl rfl ?_
  refine z_iconst (v := nI 5) (by decide) (pc' := 3) 2 rfl rfl ?_
  refine z_callS1 (pc' := 6) 3 rfl rfl k_Mo_67 (c_Mo_in _ _ _) (by decide) (Nat.le_refl _) (Nat.le_refl _) rfl rfl (Nat.le_of_ble_eq_true rfl) ?_
  first | refine z_if_eqB (pc' := 9) 4 rfl rfl (tgt := 40) rfl (fun h6 => ?_) (fun h6 => ?_) | refine z_if_eqN (pc' := 9) 4 rfl rfl (tgt := 40) rfl (by omega) (fun h6 => ?_) (fun h6 => ?_) | refine z_if_eq (pc' := 9) 4 rfl rfl (tgt := 40) rfl (fun h6 => ?_) (fun h6 => ?_)
  · refine z_iconst (v := (-1)) (by decide) (pc' := 41) 20 rfl rfl ?_
    exact z_ireturn 21 rfl rfl (by first | rfl | exact zbo_nar) rfl rfl (by show mK μ s _ _ _; rw [f_report, if_neg (fun z0 => h6 z0.1)]; exact mK_of3 hst (sEq_r) hD (hk5))
  · refine z_il2 (pc' := 10) 5 rfl rfl ?_
    refine z_iconst (v := nI 0) (by decide) (pc' := 11) 6 rfl rfl ?_
    refine z_bipush (v := nI 7) (by decide) (pc' := 13) 7 rfl rfl ?_
    refine z_callS1 (pc' := 16) 8 rfl rfl k_Mo_67 (c_Mo_in _ _ _) (by decide) (Nat.le_refl _) (Nat.le_refl _) rfl rfl (Nat.le_of_ble_eq_true rfl) ?_
    first | refine z_if_eqB (pc' := 19) 9 rfl rfl (tgt := 40) rfl (fun h16 => ?_) (fun h16 => ?_) | refine z_if_eqN (pc' := 19) 9 rfl rfl (tgt := 40) rfl (by omega) (fun h16 => ?_) (fun h16 => ?_) | refine z_if_eq (pc' := 19) 9 rfl rfl (tgt := 40) rfl (fun h16 => ?_) (fun h16 => ?_)
    · refine z_iconst (v := (-1)) (by decide) (pc' := 41) 20 rfl rfl ?_
      exact z_ireturn 21 rfl rfl (by first | rfl | exact zbo_nar) rfl rfl (by show mK μ s _ _ _; rw [f_report, if_neg (fun z0 => h16 z0.2.1)]; exact mK_of3 hst (sEq_r) hD (hk5))
    · refine z_il3 (pc' := 20) 10 rfl rfl ?_
      refine z_iconst (v := nI 0) (by decide) (pc' := 21) 11 rfl rfl ?_
      refine z_bipush (v := nI 99) (by decide) (pc' := 23) 12 rfl rfl ?_
      refine z_callS1 (pc' := 26) 13 rfl rfl k_Mo_67 (c_Mo_in _ _ _) (by decide) (Nat.le_refl _) (Nat.le_refl _) rfl rfl (Nat.le_of_ble_eq_true rfl) ?_
      first | refine z_if_eqB (pc' := 29) 14 rfl rfl (tgt := 40) rfl (fun h26 => ?_) (fun h26 => ?_) | refine z_if_eqN (pc' := 29) 14 rfl rfl (tgt := 40) rfl (by omega) (fun h26 => ?_) (fun h26 => ?_) | refine z_if_eq (pc' := 29) 14 rfl rfl (tgt := 40) rfl (fun h26 => ?_) (fun h26 => ?_)
      · refine z_iconst (v := (-1)) (by decide) (pc' := 41) 20 rfl rfl ?_
        exact z_ireturn 21 rfl rfl (by first | rfl | exact zbo_nar) rfl rfl (by show mK μ s _ _ _; rw [f_report, if_neg (fun z0 => h26 z0.2.2.1)]; exact mK_of3 hst (sEq_r) hD (hk5))
      · refine z_il4 (pc' := 31) 15 rfl rfl ?_
        refine z_il3 (pc' := 32) 16 rfl rfl ?_
        refine z_bipush (v := nI 99) (by decide) (pc' := 34) 17 rfl rfl ?_
        refine z_callS1 (pc' := 37) 18 rfl rfl k_Mo_67 (c_Mo_in _ _ _) (by decide) (Nat.le_refl _) (Nat.le_refl _) rfl rfl (Nat.le_of_ble_eq_true rfl) ?_
        first | refine z_if_neB (pc' := 40) 19 rfl rfl (tgt := 42) rfl (fun h37 => ?_) (fun h37 => ?_) | refine z_if_neN (pc' := 40) 19 rfl rfl (tgt := 42) rfl (by omega) (fun h37 => ?_) (fun h37 => ?_) | refine z_if_ne (pc' := 40) 19 rfl rfl (tgt := 42) rfl (fun h37 => ?_) (fun h37 => ?_)
        · obtain ⟨x1, hx1, hx2, rfl⟩ := z_wi h6 (by decide) (by decide)
          obtain ⟨y1, hy1, hy2, rfl⟩ := z_wi h16 (by decide) (by decide)
          obtain ⟨z1, hz1, hz2, rfl⟩ := z_wi h26 (by decide) (by decide)
          obtain ⟨v1, hv1, hv2, rfl⟩ := z_wi h37 (by decide) (by omega)
          refine z_al0 (pc' := 43) 22 rfl rfl ?_
          refine z_getf (pc' := 46) 23 rfl rfl f_Mo_9_12 (by first | exact pm_f | exact pm_1 | (rw [pm_o (by decide)]; first | exact zu_s | (rw [zu_n (by decide)]; first | exact zu_s | (rw [zu_n (by decide)]; assumption)))) (by rfl) ?_
          refine z_bipush (v := nI 6) (by decide) (pc' := 48) 24 rfl rfl ?_
          refine z_iald (pc' := 49) 25 rfl rfl (by first | exact pm_f | exact pm_1 | (rw [pm_o (by decide)]; first | exact zu_s | (rw [zu_n (by decide)]; first | exact zu_s | (rw [zu_n (by decide)]; assumption)))) (by omega) (by decide) ?_
          rw [mk_6]
          refine z_is5 rfl rfl (pc' := 51) 26 rfl rfl ?_
          refine z_il5 (pc' := 53) 27 rfl rfl ?_
          refine z_bipush (v := nI 6) (by decide) (pc' := 55) 28 rfl rfl ?_
          first | refine z_icmp_neN (pc' := 58) 29 rfl rfl (tgt := 61) rfl (by omega) (by omega) (fun h55 => ?_) (fun h55 => ?_) | refine z_icmp_ne (pc' := 58) 29 rfl rfl (tgt := 61) rfl (fun h55 => ?_) (fun h55 => ?_)
          · refine z_al0 (pc' := 62) 32 rfl rfl ?_
            refine z_getf (pc' := 65) 33 rfl rfl f_Mo_9_12 (by first | exact pm_f | exact pm_1 | (rw [pm_o (by decide)]; first | exact zu_s | (rw [zu_n (by decide)]; first | exact zu_s | (rw [zu_n (by decide)]; assumption)))) (by rfl) ?_
            refine z_bipush (v := nI 6) (by decide) (pc' := 67) 34 rfl rfl ?_
            refine z_dup2 rfl rfl (pc' := 68) 35 rfl rfl ?_
            refine z_iald (pc' := 69) 36 rfl rfl (by first | exact pm_f | exact pm_1 | (rw [pm_o (by decide)]; first | exact zu_s | (rw [zu_n (by decide)]; first | exact zu_s | (rw [zu_n (by decide)]; assumption)))) (by omega) (by decide) ?_
            rw [mk_6]
            refine z_iconst (v := nI 1) (by decide) (pc' := 70) 37 rfl rfl ?_
            first | refine z_iaddN (pc' := 71) 38 rfl rfl ?_ | refine z_iadd (pc' := 71) 38 rfl rfl ?_
            refine z_iast (pc' := 72) 39 rfl rfl (by first | exact pm_f | exact pm_1 | (rw [pm_o (by decide)]; first | exact zu_s | (rw [zu_n (by decide)]; first | exact zu_s | (rw [zu_n (by decide)]; assumption)))) (by omega) (by decide) ?_
            rw [mk_u_nr, pm_s1]
            refine z_al0 (pc' := 73) 40 rfl rfl ?_
            refine z_getf (pc' := 76) 41 rfl rfl f_Mo_9_12 (by first | exact pm_f | exact pm_1 | (rw [pm_o (by decide)]; first | exact zu_s | (rw [zu_n (by decide)]; first | exact zu_s | (rw [zu_n (by decide)]; assumption)))) (by rfl) ?_
            refine z_bipush (v := nI 62) (by decide) (pc' := 78) 42 rfl rfl ?_
            refine z_iconst (v := nI 4) (by decide) (pc' := 79) 43 rfl rfl ?_
            refine z_il5 (pc' := 81) 44 rfl rfl ?_
            first | refine z_imulN (pc' := 82) 45 rfl rfl ?_ | refine z_imul (pc' := 82) 45 rfl rfl ?_
            first | refine z_iaddN (pc' := 83) 46 rfl rfl ?_ | refine z_iadd (pc' := 83) 46 rfl rfl ?_
            refine z_il1 (pc' := 84) 47 rfl rfl ?_
            refine z_iast (pc' := 85) 48 rfl rfl (by first | exact pm_f | exact pm_1 | (rw [pm_o (by decide)]; first | exact zu_s | (rw [zu_n (by decide)]; first | exact zu_s | (rw [zu_n (by decide)]; assumption)))) (by omega) (by decide) ?_
            rw [mk_u_r (by omega), pm_s1]
            refine z_al0 (pc' := 86) 49 rfl rfl ?_
            refine z_getf (pc' := 89) 50 rfl rfl f_Mo_9_12 (by first | exact pm_f | exact pm_1 | (rw [pm_o (by decide)]; first | exact zu_s | (rw [zu_n (by decide)]; first | exact zu_s | (rw [zu_n (by decide)]; assumption)))) (by rfl) ?_
            refine z_bipush (v := nI 62) (by decide) (pc' := 91) 51 rfl rfl ?_
            refine z_iconst (v := nI 4) (by decide) (pc' := 92) 52 rfl rfl ?_
            refine z_il5 (pc' := 94) 53 rfl rfl ?_
            first | refine z_imulN (pc' := 95) 54 rfl rfl ?_ | refine z_imul (pc' := 95) 54 rfl rfl ?_
            first | refine z_iaddN (pc' := 96) 55 rfl rfl ?_ | refine z_iadd (pc' := 96) 55 rfl rfl ?_
            refine z_iconst (v := nI 1) (by decide) (pc' := 97) 56 rfl rfl ?_
            first | refine z_iaddN (pc' := 98) 57 rfl rfl ?_ | refine z_iadd (pc' := 98) 57 rfl rfl ?_
            refine z_il2 (pc' := 99) 58 rfl rfl ?_
            refine z_iast (pc' := 100) 59 rfl rfl (by first | exact pm_f | exact pm_1 | (rw [pm_o (by decide)]; first | exact zu_s | (rw [zu_n (by decide)]; first | exact zu_s | (rw [zu_n (by decide)]; assumption)))) (by omega) (by decide) ?_
            rw [Nat.add_assoc 62, mk_u_r (by omega), pm_s1]
            refine z_al0 (pc' := 101) 60 rfl rfl ?_
            refine z_getf (pc' := 104) 61 rfl rfl f_Mo_9_12 (by first | exact pm_f | exact pm_1 | (rw [pm_o (by decide)]; first | exact zu_s | (rw [zu_n (by decide)]; first | exact zu_s | (rw [zu_n (by decide)]; assumption)))) (by rfl) ?_
            refine z_bipush (v := nI 62) (by decide) (pc' := 106) 62 rfl rfl ?_
            refine z_iconst (v := nI 4) (by decide) (pc' := 107) 63 rfl rfl ?_
            refine z_il5 (pc' := 109) 64 rfl rfl ?_
            first | refine z_imulN (pc' := 110) 65 rfl rfl ?_ | refine z_imul (pc' := 110) 65 rfl rfl ?_
            first | refine z_iaddN (pc' := 111) 66 rfl rfl ?_ | refine z_iadd (pc' := 111) 66 rfl rfl ?_
            refine z_iconst (v := nI 2) (by decide) (pc' := 112) 67 rfl rfl ?_
            first | refine z_iaddN (pc' := 113) 68 rfl rfl ?_ | refine z_iadd (pc' := 113) 68 rfl rfl ?_
            refine z_il3 (pc' := 114) 69 rfl rfl ?_
            refine z_iast (pc' := 115) 70 rfl rfl (by first | exact pm_f | exact pm_1 | (rw [pm_o (by decide)]; first | exact zu_s | (rw [zu_n (by decide)]; first | exact zu_s | (rw [zu_n (by decide)]; assumption)))) (by omega) (by decide) ?_
            rw [Nat.add_assoc 62, mk_u_r (by omega), pm_s1]
            refine z_al0 (pc' := 116) 71 rfl rfl ?_
            refine z_getf (pc' := 119) 72 rfl rfl f_Mo_9_12 (by first | exact pm_f | exact pm_1 | (rw [pm_o (by decide)]; first | exact zu_s | (rw [zu_n (by decide)]; first | exact zu_s | (rw [zu_n (by decide)]; assumption)))) (by rfl) ?_
            refine z_bipush (v := nI 62) (by decide) (pc' := 121) 73 rfl rfl ?_
            refine z_iconst (v := nI 4) (by decide) (pc' := 122) 74 rfl rfl ?_
            refine z_il5 (pc' := 124) 75 rfl rfl ?_
            first | refine z_imulN (pc' := 125) 76 rfl rfl ?_ | refine z_imul (pc' := 125) 76 rfl rfl ?_
            first | refine z_iaddN (pc' := 126) 77 rfl rfl ?_ | refine z_iadd (pc' := 126) 77 rfl rfl ?_
            refine z_iconst (v := nI 3) (by decide) (pc' := 127) 78 rfl rfl ?_
            first | refine z_iaddN (pc' := 128) 79 rfl rfl ?_ | refine z_iadd (pc' := 128) 79 rfl rfl ?_
            refine z_il4 (pc' := 130) 80 rfl rfl ?_
            refine z_iast (pc' := 131) 81 rfl rfl (by first | exact pm_f | exact pm_1 | (rw [pm_o (by decide)]; first | exact zu_s | (rw [zu_n (by decide)]; first | exact zu_s | (rw [zu_n (by decide)]; assumption)))) (by omega) (by decide) ?_
            rw [Nat.add_assoc 62, mk_u_r (by omega), pm_s1, un8]
            refine z_il5 (pc' := 133) 82 rfl rfl ?_
            exact z_ireturn 83 rfl rfl (by first | rfl | exact zbo_nar) rfl rfl (by show mK μ s _ _ _; rw [f_report, if_pos ⟨h6, h16, h26, h37⟩, if_neg h55, tN_n (by omega), tN_n (by omega), tN_n (by omega), tN_n (by omega)]; exact mK_of3 hst (sEq_r) hD (⟨rS'_ok hi (by omega) (by omega) (by omega) hz2 hv2, hx, hmo, hrc⟩))
          · refine z_bipush (v := (-2)) (by decide) (pc' := 60) 30 rfl rfl ?_
            exact z_ireturn 31 rfl rfl (by first | rfl | exact zbo_nar) rfl rfl (by show mK μ s _ _ _; rw [f_report, if_pos ⟨h6, h16, h26, h37⟩, if_pos h55]; exact mK_of3 hst (sEq_r) hD (hk5))
        · refine z_iconst (v := (-1)) (by decide) (pc' := 41) 20 rfl rfl ?_
          exact z_ireturn 21 rfl rfl (by first | rfl | exact zbo_nar) rfl rfl (by show mK μ s _ _ _; rw [f_report, if_neg (fun z0 => h37 z0.2.2.2)]; exact mK_of3 hst (sEq_r) hD (hk5))
set_option maxHeartbeats 4000000 in
set_option maxRecDepth 100000 in
theorem c_Wb_windOf {G : zG} {n u : Nat} {μ : Nat → va_E} {κ : zκ} {kp : Int32} {ac : Value} (h : cst μ κ) (hob : isOb μ kp ac) (x y : Int32) :
    zMet G 1 M_Wb_windOf [.ref 4, .int x, .int y] n u μ n u (cK μ (f_windOf κ x y)) := by
  obtain ⟨S, mo, pr, fa, sc, ch, rc, D⟩ := κ
  have hst := h
  obtain ⟨h1, ⟨cs, q, h2⟩, ⟨β, its, h3, h3a, h3b⟩, ⟨c23, h4⟩, h5⟩ := h
  have hk5 := h5
  obtain ⟨hi, hx, hmo, hrc⟩ := h5
  have hi0 := hi.1
  have hi1 := hi.2.1
  have hi2 := hi.2.2.1
  have hi3 := hi.2.2.2.2.1
  refine z_start (lv := [.ref 4, .int x, .int y]) K_Wb_windOf rfl rfl (Nat.le_refl _) (Nat.le_refl _) (Nat.le_of_ble_eq_true rfl) rfl ?_
  unfold isOb at hob
  refine z_mu (pcc_id h1 h2).symm ?_
  refine z_al0 (pc' := 1) 0 rfl rfl ?_
  refine z_getf (pc' := 4) 1 rfl rfl f_Wb_10_11 (by first | exact pcc_5 | exact pcc_6 | exact pcc_7 | exact pcc_8 | exact pcc_9 | exact pcc_10 | exact pcc_11 | exact pcc_12 | exact pcc_13 | exact pcc_14 | exact pcc_15 | exact pcc_22 | (rw [pcc_o (by decide)]; assumption)) (by rfl) ?_
  refine z_il1 (pc' := 5) 2 rfl rfl ?_
  refine z_callV1 (pc' := 8) 3 rfl rfl k_Wb_117 (by first | exact pcc_5 | exact pcc_6 | exact pcc_7 | exact pcc_8 | exact pcc_9 | exact pcc_10 | exact pcc_11 | exact pcc_12 | exact pcc_13 | exact pcc_14 | exact pcc_15 | exact pcc_22 | (rw [pcc_o (by decide)]; assumption)) (c_Co_hasWind isCo_pcc hi _) (by decide) (Nat.le_refl _) (Nat.le_refl _) rfl rfl (Nat.le_of_ble_eq_true rfl) ?_
  first | refine z_if_neB (pc' := 11) 4 rfl rfl (tgt := 13) rfl (fun h8 => ?_) (fun h8 => ?_) | refine z_if_neN (pc' := 11) 4 rfl rfl (tgt := 13) rfl (by omega) (fun h8 => ?_) (fun h8 => ?_) | refine z_if_ne (pc' := 11) 4 rfl rfl (tgt := 13) rfl (fun h8 => ?_) (fun h8 => ?_)
  · obtain ⟨g, hg, rfl⟩ := z_in h8 (by omega)
    refine z_il2 (pc' := 14) 7 rfl rfl ?_
    first | refine z_swN (by omega) 0 (by decide) (fun h14_0 => ?_) (fun h14_0 => ?_) | refine z_sw 0 (fun h14_0 => ?_) (fun h14_0 => ?_)
    · refine z_tableIn 8 rfl (by decide) (by decide) (off := 38) rfl (tgt := 52) rfl ?_
      refine z_al0 (pc' := 53) 9 rfl rfl ?_
      refine z_getf (pc' := 56) 10 rfl rfl f_Wb_10_11 (by first | exact pcc_5 | exact pcc_6 | exact pcc_7 | exact pcc_8 | exact pcc_9 | exact pcc_10 | exact pcc_11 | exact pcc_12 | exact pcc_13 | exact pcc_14 | exact pcc_15 | exact pcc_22 | (rw [pcc_o (by decide)]; assumption)) (by rfl) ?_
      refine z_getr (pc' := 59) 11 rfl rfl f_Wb_120_3 (by first | exact pcc_5 | exact pcc_6 | exact pcc_7 | exact pcc_8 | exact pcc_9 | exact pcc_10 | exact pcc_11 | exact pcc_12 | exact pcc_13 | exact pcc_14 | exact pcc_15 | exact pcc_22 | (rw [pcc_o (by decide)]; assumption)) (by rfl) ?_
      refine z_il1 (pc' := 60) 12 rfl rfl ?_
      refine z_iald (pc' := 61) 13 rfl rfl (by first | exact pcc_5 | exact pcc_6 | exact pcc_7 | exact pcc_8 | exact pcc_9 | exact pcc_10 | exact pcc_11 | exact pcc_12 | exact pcc_13 | exact pcc_14 | exact pcc_15 | exact pcc_22 | (rw [pcc_o (by decide)]; assumption)) (by omega) (by decide) ?_
      exact z_ireturn 14 rfl rfl (by first | rfl | exact zbo_nar) rfl rfl (by show cK μ _ _ _; rw [f_windOf, if_pos h8, h14_0, if_pos (by decide), tN_n (by omega), tN_n (by decide)]; exact cK_of hst rfl rfl (hk5))
    first | refine z_swN (by omega) 1 (by decide) (fun h14_1 => ?_) (fun h14_1 => ?_) | refine z_sw 1 (fun h14_1 => ?_) (fun h14_1 => ?_)
    · refine z_tableIn 8 rfl (by decide) (by decide) (off := 48) rfl (tgt := 62) rfl ?_
      refine z_al0 (pc' := 63) 15 rfl rfl ?_
      refine z_getf (pc' := 66) 16 rfl rfl f_Wb_10_11 (by first | exact pcc_5 | exact pcc_6 | exact pcc_7 | exact pcc_8 | exact pcc_9 | exact pcc_10 | exact pcc_11 | exact pcc_12 | exact pcc_13 | exact pcc_14 | exact pcc_15 | exact pcc_22 | (rw [pcc_o (by decide)]; assumption)) (by rfl) ?_
      refine z_getr (pc' := 69) 17 rfl rfl f_Wb_123_3 (by first | exact pcc_5 | exact pcc_6 | exact pcc_7 | exact pcc_8 | exact pcc_9 | exact pcc_10 | exact pcc_11 | exact pcc_12 | exact pcc_13 | exact pcc_14 | exact pcc_15 | exact pcc_22 | (rw [pcc_o (by decide)]; assumption)) (by rfl) ?_
      refine z_il1 (pc' := 70) 18 rfl rfl ?_
      refine z_iald (pc' := 71) 19 rfl rfl (by first | exact pcc_5 | exact pcc_6 | exact pcc_7 | exact pcc_8 | exact pcc_9 | exact pcc_10 | exact pcc_11 | exact pcc_12 | exact pcc_13 | exact pcc_14 | exact pcc_15 | exact pcc_22 | (rw [pcc_o (by decide)]; assumption)) (by omega) (by decide) ?_
      exact z_ireturn 20 rfl rfl (by first | rfl | exact zbo_nar) rfl rfl (by show cK μ _ _ _; rw [f_windOf, if_pos h8, h14_1, if_pos (by decide), tN_n (by omega), tN_n (by decide)]; exact cK_of hst rfl rfl (hk5))
    first | refine z_swN (by omega) 2 (by decide) (fun h14_2 => ?_) (fun h14_2 => ?_) | refine z_sw 2 (fun h14_2 => ?_) (fun h14_2 => ?_)
    · refine z_tableIn 8 rfl (by decide) (by decide) (off := 58) rfl (tgt := 72) rfl ?_
      refine z_al0 (pc' := 73) 21 rfl rfl ?_
      refine z_getf (pc' := 76) 22 rfl rfl f_Wb_10_11 (by first | exact pcc_5 | exact pcc_6 | exact pcc_7 | exact pcc_8 | exact pcc_9 | exact pcc_10 | exact pcc_11 | exact pcc_12 | exact pcc_13 | exact pcc_14 | exact pcc_15 | exact pcc_22 | (rw [pcc_o (by decide)]; assumption)) (by rfl) ?_
      refine z_getr (pc' := 79) 23 rfl rfl f_Wb_126_3 (by first | exact pcc_5 | exact pcc_6 | exact pcc_7 | exact pcc_8 | exact pcc_9 | exact pcc_10 | exact pcc_11 | exact pcc_12 | exact pcc_13 | exact pcc_14 | exact pcc_15 | exact pcc_22 | (rw [pcc_o (by decide)]; assumption)) (by rfl) ?_
      refine z_il1 (pc' := 80) 24 rfl rfl ?_
      refine z_iald (pc' := 81) 25 rfl rfl (by first | exact pcc_5 | exact pcc_6 | exact pcc_7 | exact pcc_8 | exact pcc_9 | exact pcc_10 | exact pcc_11 | exact pcc_12 | exact pcc_13 | exact pcc_14 | exact pcc_15 | exact pcc_22 | (rw [pcc_o (by decide)]; assumption)) (by omega) (by decide) ?_
      exact z_ireturn 26 rfl rfl (by first | rfl | exact zbo_nar) rfl rfl (by show cK μ _ _ _; rw [f_windOf, if_pos h8, h14_2, if_pos (by decide), tN_n (by omega), tN_n (by decide)]; exact cK_of hst rfl rfl (hk5))
    first | refine z_swN (by omega) 3 (by decide) (fun h14_3 => ?_) (fun h14_3 => ?_) | refine z_sw 3 (fun h14_3 => ?_) (fun h14_3 => ?_)
    · refine z_tableIn 8 rfl (by decide) (by decide) (off := 68) rfl (tgt := 82) rfl ?_
      refine z_al0 (pc' := 83) 27 rfl rfl ?_
      refine z_getf (pc' := 86) 28 rfl rfl f_Wb_10_11 (by first | exact pcc_5 | exact pcc_6 | exact pcc_7 | exact pcc_8 | exact pcc_9 | exact pcc_10 | exact pcc_11 | exact pcc_12 | exact pcc_13 | exact pcc_14 | exact pcc_15 | exact pcc_22 | (rw [pcc_o (by decide)]; assumption)) (by rfl) ?_
      refine z_getr (pc' := 89) 29 rfl rfl f_Wb_129_3 (by first | exact pcc_5 | exact pcc_6 | exact pcc_7 | exact pcc_8 | exact pcc_9 | exact pcc_10 | exact pcc_11 | exact pcc_12 | exact pcc_13 | exact pcc_14 | exact pcc_15 | exact pcc_22 | (rw [pcc_o (by decide)]; assumption)) (by rfl) ?_
      refine z_il1 (pc' := 90) 30 rfl rfl ?_
      refine z_iald (pc' := 91) 31 rfl rfl (by first | exact pcc_5 | exact pcc_6 | exact pcc_7 | exact pcc_8 | exact pcc_9 | exact pcc_10 | exact pcc_11 | exact pcc_12 | exact pcc_13 | exact pcc_14 | exact pcc_15 | exact pcc_22 | (rw [pcc_o (by decide)]; assumption)) (by omega) (by decide) ?_
      exact z_ireturn 32 rfl rfl (by first | rfl | exact zbo_nar) rfl rfl (by show cK μ _ _ _; rw [f_windOf, if_pos h8, h14_3, if_pos (by decide), tN_n (by omega), tN_n (by decide)]; exact cK_of hst rfl rfl (hk5))
    first | refine z_swN (by omega) 4 (by decide) (fun h14_4 => ?_) (fun h14_4 => ?_) | refine z_sw 4 (fun h14_4 => ?_) (fun h14_4 => ?_)
    · refine z_tableIn 8 rfl (by decide) (by decide) (off := 78) rfl (tgt := 92) rfl ?_
      refine z_al0 (pc' := 93) 33 rfl rfl ?_
      refine z_getf (pc' := 96) 34 rfl rfl f_Wb_10_11 (by first | exact pcc_5 | exact pcc_6 | exact pcc_7 | exact pcc_8 | exact pcc_9 | exact pcc_10 | exact pcc_11 | exact pcc_12 | exact pcc_13 | exact pcc_14 | exact pcc_15 | exact pcc_22 | (rw [pcc_o (by decide)]; assumption)) (by rfl) ?_
      refine z_getr (pc' := 99) 35 rfl rfl f_Wb_97_3 (by first | exact pcc_5 | exact pcc_6 | exact pcc_7 | exact pcc_8 | exact pcc_9 | exact pcc_10 | exact pcc_11 | exact pcc_12 | exact pcc_13 | exact pcc_14 | exact pcc_15 | exact pcc_22 | (rw [pcc_o (by decide)]; assumption)) (by rfl) ?_
      refine z_al0 (pc' := 100) 36 rfl rfl ?_
      refine z_getf (pc' := 103) 37 rfl rfl f_Wb_10_11 (by first | exact pcc_5 | exact pcc_6 | exact pcc_7 | exact pcc_8 | exact pcc_9 | exact pcc_10 | exact pcc_11 | exact pcc_12 | exact pcc_13 | exact pcc_14 | exact pcc_15 | exact pcc_22 | (rw [pcc_o (by decide)]; assumption)) (by rfl) ?_
      refine z_il1 (pc' := 104) 38 rfl rfl ?_
      refine z_callV1 (pc' := 107) 39 rfl rfl k_Wb_132 (by first | exact pcc_5 | exact pcc_6 | exact pcc_7 | exact pcc_8 | exact pcc_9 | exact pcc_10 | exact pcc_11 | exact pcc_12 | exact pcc_13 | exact pcc_14 | exact pcc_15 | exact pcc_22 | (rw [pcc_o (by decide)]; assumption)) (c_bridesOfC hi (by omega) (fun j => (hx j).1)) (by decide) (Nat.le_refl _) (Nat.le_refl _) rfl rfl (Nat.le_of_ble_eq_true rfl) ?_
      exact z_ireturn 40 rfl rfl (by first | rfl | exact zbo_nar) rfl rfl (by show cK μ _ _ _; rw [f_windOf, if_pos h8, h14_4, if_pos (by decide), tN_n (by omega), tN_n (by decide)]; exact cK_of hst rfl rfl (hk5))
    first | refine z_swN (by omega) 5 (by decide) (fun h14_5 => ?_) (fun h14_5 => ?_) | refine z_sw 5 (fun h14_5 => ?_) (fun h14_5 => ?_)
    · refine z_tableIn 8 rfl (by decide) (by decide) (off := 94) rfl (tgt := 108) rfl ?_
      refine z_al0 (pc' := 109) 41 rfl rfl ?_
      refine z_getf (pc' := 112) 42 rfl rfl f_Wb_10_11 (by first | exact pcc_5 | exact pcc_6 | exact pcc_7 | exact pcc_8 | exact pcc_9 | exact pcc_10 | exact pcc_11 | exact pcc_12 | exact pcc_13 | exact pcc_14 | exact pcc_15 | exact pcc_22 | (rw [pcc_o (by decide)]; assumption)) (by rfl) ?_
      refine z_il1 (pc' := 113) 43 rfl rfl ?_
      refine z_al0 (pc' := 114) 44 rfl rfl ?_
      refine z_getf (pc' := 117) 45 rfl rfl f_Wb_10_11 (by first | exact pcc_5 | exact pcc_6 | exact pcc_7 | exact pcc_8 | exact pcc_9 | exact pcc_10 | exact pcc_11 | exact pcc_12 | exact pcc_13 | exact pcc_14 | exact pcc_15 | exact pcc_22 | (rw [pcc_o (by decide)]; assumption)) (by rfl) ?_
      refine z_getr (pc' := 120) 46 rfl rfl f_Wb_97_3 (by first | exact pcc_5 | exact pcc_6 | exact pcc_7 | exact pcc_8 | exact pcc_9 | exact pcc_10 | exact pcc_11 | exact pcc_12 | exact pcc_13 | exact pcc_14 | exact pcc_15 | exact pcc_22 | (rw [pcc_o (by decide)]; assumption)) (by rfl) ?_
      refine z_getf (pc' := 123) 47 rfl rfl f_Wb_135_4 (by first | exact pcc_5 | exact pcc_6 | exact pcc_7 | exact pcc_8 | exact pcc_9 | exact pcc_10 | exact pcc_11 | exact pcc_12 | exact pcc_13 | exact pcc_14 | exact pcc_15 | exact pcc_22 | (rw [pcc_o (by decide)]; assumption)) (by rfl) ?_
      refine z_callV1 (pc' := 126) 48 rfl rfl k_Wb_138 (by first | exact pcc_5 | exact pcc_6 | exact pcc_7 | exact pcc_8 | exact pcc_9 | exact pcc_10 | exact pcc_11 | exact pcc_12 | exact pcc_13 | exact pcc_14 | exact pcc_15 | exact pcc_22 | (rw [pcc_o (by decide)]; assumption)) (c_Co_blows isCo_pcc hi (by omega) (by omega)) (by decide) (Nat.le_refl _) (Nat.le_refl _) rfl rfl (Nat.le_of_ble_eq_true rfl) ?_
      first | refine z_if_eqB (pc' := 129) 49 rfl rfl (tgt := 133) rfl (fun h126 => ?_) (fun h126 => ?_) | refine z_if_eqN (pc' := 129) 49 rfl rfl (tgt := 133) rfl (by omega) (fun h126 => ?_) (fun h126 => ?_) | refine z_if_eq (pc' := 129) 49 rfl rfl (tgt := 133) rfl (fun h126 => ?_) (fun h126 => ?_)
      · refine z_iconst (v := nI 0) (by decide) (pc' := 134) 52 rfl rfl ?_
        exact z_ireturn 53 rfl rfl (by first | rfl | exact zbo_nar) rfl rfl (by show cK μ _ _ _; rw [f_windOf, if_pos h8, h14_5, if_pos (by decide), tN_n (by omega), tN_n (by decide), show wq S mo pr g 5 = 0 from if_neg h126]; exact cK_of hst rfl rfl (hk5))
      · refine z_iconst (v := nI 1) (by decide) (pc' := 130) 50 rfl rfl ?_
        refine z_goto 51 rfl (tgt := 134) rfl ?_
        exact z_ireturn 53 rfl rfl (by first | rfl | exact zbo_nar) rfl rfl (by show cK μ _ _ _; rw [f_windOf, if_pos h8, h14_5, if_pos (by decide), tN_n (by omega), tN_n (by decide), show wq S mo pr g 5 = 1 from if_pos h126]; exact cK_of hst rfl rfl (hk5))
    refine z_tableOut 8 rfl (by first | (rw [nI_toInt (by omega)]; omega) | (have e0 := z_ne (by decide) h14_0; have e1 := z_ne (by decide) h14_1; have e2 := z_ne (by decide) h14_2; have e3 := z_ne (by decide) h14_3; have e4 := z_ne (by decide) h14_4; have e5 := z_ne (by decide) h14_5; omega)) (tgt := 135) rfl ?_
    refine z_iconst (v := (-1)) (by decide) (pc' := 136) 54 rfl rfl ?_
    exact z_ireturn 55 rfl rfl (by first | rfl | exact zbo_nar) rfl rfl (by show cK μ _ _ _; rw [f_windOf, if_pos h8, if_neg (z_no (by decide) (fun j hj => by rcases (show j = 0 ∨ j = 1 ∨ j = 2 ∨ j = 3 ∨ j = 4 ∨ j = 5 by omega) with e | e | e | e | e | e <;> subst e <;> assumption))]; exact cK_of hst rfl rfl (hk5))
  · refine z_iconst (v := (-1)) (by decide) (pc' := 12) 5 rfl rfl ?_
    exact z_ireturn 6 rfl rfl (by first | rfl | exact zbo_nar) rfl rfl (by show cK μ _ _ _; rw [f_windOf, if_neg h8]; exact cK_of hst rfl rfl (hk5))
set_option maxHeartbeats 4000000 in
set_option maxRecDepth 100000 in
theorem c_Mo_windOf {G : zG} {n u : Nat} {μ : Nat → va_E} {κ : zκ} {s : Nat → Int32} (h : mst μ s κ) (x y : Int32) :
    zMet G 2 M_Mo_windOf [.ref 88, .int x, .int y] n u μ n u (mK μ s (f_windOf κ x y)) := by
  obtain ⟨S, mo, pr, fa, sc, ch, rc, D⟩ := κ
  have hst := h
  obtain ⟨⟨ρ, h1, hD⟩, h2, ⟨q93, h93⟩, ⟨q91, h91⟩, ⟨q94, h94⟩, ⟨q95, h95⟩, ⟨q96, h96⟩, ⟨q97, h97⟩, h5⟩ := h
  have hk5 := h5
  obtain ⟨hi, hx, hmo, hrc⟩ := h5
  have hi0 := hi.1
  have hi1 := hi.2.1
  have hi2 := hi.2.2.1
  have hi3 := hi.2.2.2.2.1
  have hm16 : mo ≤ 16 := by omega
  refine z_start (lv := [.ref 88, .int x, .int y]) K_Mo_windOf rfl rfl (Nat.le_refl _) (Nat.le_refl _) (Nat.le_of_ble_eq_true rfl) rfl ?_
  refine z_mu (show μ = pm (zu (zu μ 91 (.inl (0, 618, .inl q91))) 93 (.inl (1, 100, .inl q93))) s (mk S mo pr fa sc ch rc ρ) by rw [zu_id h91, zu_id h93, pm_id h2 h1]) ?_
  refine z_al0 (pc' := 1) 0 rfl rfl ?_
  refine z_il1 (pc' := 2) 1 rfl rfl ?_
  refine z_callV1 (pc' := 5) 2 rfl rfl k_Mo_106 (by first | exact pm_f | exact pm_1 | (rw [pm_o (by decide)]; first | exact zu_s | (rw [zu_n (by decide)]; first | exact zu_s | (rw [zu_n (by decide)]; assumption)))) (c_Mo_isWind hi _) (by decide) (Nat.le_refl _) (Nat.le_refl _) rfl rfl (Nat.le_of_ble_eq_true rfl) ?_
  first | refine z_if_eqB (pc' := 8) 3 rfl rfl (tgt := 17) rfl (fun h5 => ?_) (fun h5 => ?_) | refine z_if_eqN (pc' := 8) 3 rfl rfl (tgt := 17) rfl (by omega) (fun h5 => ?_) (fun h5 => ?_) | refine z_if_eq (pc' := 8) 3 rfl rfl (tgt := 17) rfl (fun h5 => ?_) (fun h5 => ?_)
  · refine z_iconst (v := (-1)) (by decide) (pc' := 18) 9 rfl rfl ?_
    exact z_ireturn 10 rfl rfl (by first | rfl | exact zbo_nar) rfl rfl (by show mK μ s _ _ _; rw [f_windOf, if_neg h5]; exact mK_of3 hst (sEq_r) hD (hk5))
  · refine z_il2 (pc' := 9) 4 rfl rfl ?_
    refine z_iconst (v := nI 0) (by decide) (pc' := 10) 5 rfl rfl ?_
    refine z_iconst (v := nI 5) (by decide) (pc' := 11) 6 rfl rfl ?_
    refine z_callS1 (pc' := 14) 7 rfl rfl k_Mo_67 (c_Mo_in _ _ _) (by decide) (Nat.le_refl _) (Nat.le_refl _) rfl rfl (Nat.le_of_ble_eq_true rfl) ?_
    first | refine z_if_neB (pc' := 17) 8 rfl rfl (tgt := 19) rfl (fun h14 => ?_) (fun h14 => ?_) | refine z_if_neN (pc' := 17) 8 rfl rfl (tgt := 19) rfl (by omega) (fun h14 => ?_) (fun h14 => ?_) | refine z_if_ne (pc' := 17) 8 rfl rfl (tgt := 19) rfl (fun h14 => ?_) (fun h14 => ?_)
    · obtain ⟨g, hg, rfl⟩ := z_in h5 (by omega)
      obtain ⟨j, hj0, hj5, rfl⟩ := z_wi h14 (by decide) (by decide)
      refine z_il2 (pc' := 20) 11 rfl rfl ?_
      refine z_iconst (v := nI 4) (by decide) (pc' := 21) 12 rfl rfl ?_
      first | refine z_icmp_geN (pc' := 24) 13 rfl rfl (tgt := 33) rfl (by omega) (by omega) (fun h21 => ?_) (fun h21 => ?_) | refine z_icmp_ge (pc' := 24) 13 rfl rfl (tgt := 33) rfl (fun h21 => ?_) (fun h21 => ?_)
      · refine z_il2 (pc' := 34) 19 rfl rfl ?_
        refine z_iconst (v := nI 4) (by decide) (pc' := 35) 20 rfl rfl ?_
        first | refine z_icmp_neN (pc' := 38) 21 rfl rfl (tgt := 46) rfl (by omega) (by omega) (fun h35 => ?_) (fun h35 => ?_) | refine z_icmp_ne (pc' := 38) 21 rfl rfl (tgt := 46) rfl (fun h35 => ?_) (fun h35 => ?_)
        · refine z_al0 (pc' := 47) 26 rfl rfl ?_
          refine z_il1 (pc' := 48) 27 rfl rfl ?_
          refine z_al0 (pc' := 49) 28 rfl rfl ?_
          refine z_getf (pc' := 52) 29 rfl rfl f_Mo_9_12 (by first | exact pm_f | exact pm_1 | (rw [pm_o (by decide)]; first | exact zu_s | (rw [zu_n (by decide)]; first | exact zu_s | (rw [zu_n (by decide)]; assumption)))) (by rfl) ?_
          refine z_iconst (v := nI 1) (by decide) (pc' := 53) 30 rfl rfl ?_
          refine z_iald (pc' := 54) 31 rfl rfl (by first | exact pm_f | exact pm_1 | (rw [pm_o (by decide)]; first | exact zu_s | (rw [zu_n (by decide)]; first | exact zu_s | (rw [zu_n (by decide)]; assumption)))) (by omega) (by decide) ?_
          rw [mk_1]
          refine z_callV1 (pc' := 57) 32 rfl rfl k_Mo_112 (by first | exact pm_f | exact pm_1 | (rw [pm_o (by decide)]; first | exact zu_s | (rw [zu_n (by decide)]; first | exact zu_s | (rw [zu_n (by decide)]; assumption)))) (c_Mo_blows hi hg (by omega)) (by decide) (Nat.le_refl _) (Nat.le_refl _) rfl rfl (Nat.le_of_ble_eq_true rfl) ?_
          first | refine z_if_eqB (pc' := 60) 33 rfl rfl (tgt := 64) rfl (fun h57 => ?_) (fun h57 => ?_) | refine z_if_eqN (pc' := 60) 33 rfl rfl (tgt := 64) rfl (by omega) (fun h57 => ?_) (fun h57 => ?_) | refine z_if_eq (pc' := 60) 33 rfl rfl (tgt := 64) rfl (fun h57 => ?_) (fun h57 => ?_)
          · refine z_iconst (v := nI 0) (by decide) (pc' := 65) 36 rfl rfl ?_
            exact z_ireturn 37 rfl rfl (by first | rfl | exact zbo_nar) rfl rfl (by obtain rfl : j = 5 := (by omega); show mK μ s _ _ _; rw [f_windOf, if_pos h5, if_pos h14, tN_n (by omega), tN_n (by omega), show wq S mo pr g 5 = 0 from if_neg h57]; exact mK_of3 hst (sEq_r) hD (hk5))
          · refine z_iconst (v := nI 1) (by decide) (pc' := 61) 34 rfl rfl ?_
            refine z_goto 35 rfl (tgt := 65) rfl ?_
            exact z_ireturn 37 rfl rfl (by first | rfl | exact zbo_nar) rfl rfl (by obtain rfl : j = 5 := (by omega); show mK μ s _ _ _; rw [f_windOf, if_pos h5, if_pos h14, tN_n (by omega), tN_n (by omega), show wq S mo pr g 5 = 1 from if_pos h57]; exact mK_of3 hst (sEq_r) hD (hk5))
        · refine z_al0 (pc' := 39) 22 rfl rfl ?_
          refine z_il1 (pc' := 40) 23 rfl rfl ?_
          refine z_callV1 (pc' := 43) 24 rfl rfl k_Mo_109 (by first | exact pm_f | exact pm_1 | (rw [pm_o (by decide)]; first | exact zu_s | (rw [zu_n (by decide)]; first | exact zu_s | (rw [zu_n (by decide)]; assumption)))) (c_Mo_promisedTo hi (by omega) (fun j => (hx j).1)) (by decide) (Nat.le_refl _) (Nat.le_refl _) rfl rfl (Nat.le_of_ble_eq_true rfl) ?_
          refine z_goto 25 rfl (tgt := 65) rfl ?_
          exact z_ireturn 37 rfl rfl (by first | rfl | exact zbo_nar) rfl rfl (by subst h35; show mK μ s _ _ _; rw [f_windOf, if_pos h5, if_pos h14, tN_n (by omega), tN_n (by omega)]; exact mK_of3 hst (sEq_r) hD (hk5))
      · refine z_al0 (pc' := 25) 14 rfl rfl ?_
        refine z_il1 (pc' := 26) 15 rfl rfl ?_
        refine z_il2 (pc' := 27) 16 rfl rfl ?_
        refine z_callV1 (pc' := 30) 17 rfl rfl k_Mo_71 (by first | exact pm_f | exact pm_1 | (rw [pm_o (by decide)]; first | exact zu_s | (rw [zu_n (by decide)]; first | exact zu_s | (rw [zu_n (by decide)]; assumption)))) (c_Mo_blowing (by omega)) (by decide) (Nat.le_refl _) (Nat.le_refl _) rfl rfl (Nat.le_of_ble_eq_true rfl) ?_
        rw [mk_wq (by omega) h21]
        refine z_goto 18 rfl (tgt := 65) rfl ?_
        exact z_ireturn 37 rfl rfl (by first | rfl | exact zbo_nar) rfl rfl (by show mK μ s _ _ _; rw [f_windOf, if_pos h5, if_pos h14, tN_n (by omega), tN_n (by omega)]; exact mK_of3 hst (sEq_r) hD (hk5))
    · refine z_iconst (v := (-1)) (by decide) (pc' := 18) 9 rfl rfl ?_
      exact z_ireturn 10 rfl rfl (by first | rfl | exact zbo_nar) rfl rfl (by show mK μ s _ _ _; rw [f_windOf, if_pos h5, if_neg h14]; exact mK_of3 hst (sEq_r) hD (hk5))
set_option maxHeartbeats 4000000 in
set_option maxRecDepth 100000 in
theorem c_Wb_promise {G : zG} {n u : Nat} {μ : Nat → va_E} {κ : zκ} {kp : Int32} {ac : Value} (h : cst μ κ) (hob : isOb μ kp ac) (x y : Int32) :
    zMet G 1 M_Wb_promise [.ref 4, .int x, .int y] n u μ n u (cK μ (f_promise κ x y)) := by
  obtain ⟨S, mo, pr, fa, sc, ch, rc, D⟩ := κ
  have hst := h
  obtain ⟨h1, ⟨cs, q, h2⟩, ⟨β, its, h3, h3a, h3b⟩, ⟨c23, h4⟩, h5⟩ := h
  have hk5 := h5
  obtain ⟨hi, hx, hmo, hrc⟩ := h5
  have hi0 := hi.1
  have hi1 := hi.2.1
  have hi2 := hi.2.2.1
  have hi3 := hi.2.2.2.2.1
  refine z_start (lv := [.ref 4, .int x, .int y, .retAddr 0]) K_Wb_promise rfl rfl (Nat.le_refl _) (Nat.le_refl _) (Nat.le_of_ble_eq_true rfl) rfl ?_
  unfold isOb at hob
  refine z_mu (pcc_id h1 h2).symm ?_
  refine z_al0 (pc' := 1) 0 rfl rfl ?_
  refine z_getf (pc' := 4) 1 rfl rfl f_Wb_10_11 (by first | exact pcc_5 | exact pcc_6 | exact pcc_7 | exact pcc_8 | exact pcc_9 | exact pcc_10 | exact pcc_11 | exact pcc_12 | exact pcc_13 | exact pcc_14 | exact pcc_15 | exact pcc_22 | (rw [pcc_o (by decide)]; assumption)) (by rfl) ?_
  refine z_il1 (pc' := 5) 2 rfl rfl ?_
  refine z_callV1 (pc' := 8) 3 rfl rfl k_Wb_84 (by first | exact pcc_5 | exact pcc_6 | exact pcc_7 | exact pcc_8 | exact pcc_9 | exact pcc_10 | exact pcc_11 | exact pcc_12 | exact pcc_13 | exact pcc_14 | exact pcc_15 | exact pcc_22 | (rw [pcc_o (by decide)]; assumption)) (c_Co_hasGirl isCo_pcc hi _) (by decide) (Nat.le_refl _) (Nat.le_refl _) rfl rfl (Nat.le_of_ble_eq_true rfl) ?_
  first | refine z_if_eqB (pc' := 11) 4 rfl rfl (tgt := 27) rfl (fun h8 => ?_) (fun h8 => ?_) | refine z_if_eqN (pc' := 11) 4 rfl rfl (tgt := 27) rfl (by omega) (fun h8 => ?_) (fun h8 => ?_) | refine z_if_eq (pc' := 11) 4 rfl rfl (tgt := 27) rfl (fun h8 => ?_) (fun h8 => ?_)
  · refine z_iconst (v := (-1)) (by decide) (pc' := 28) 13 rfl rfl ?_
    exact z_ireturn 14 rfl rfl (by first | rfl | exact zbo_nar) rfl rfl (by show cK μ _ _ _; rw [f_promise, if_neg h8]; exact cK_of hst rfl rfl (hk5))
  · refine z_il2 (pc' := 12) 5 rfl rfl ?_
    refine z_iconst (v := (-1)) (by decide) (pc' := 13) 6 rfl rfl ?_
    first | refine z_icmp_eqN (pc' := 16) 7 rfl rfl (tgt := 29) rfl (by omega) (by omega) (fun h13 => ?_) (fun h13 => ?_) | refine z_icmp_eq (pc' := 16) 7 rfl rfl (tgt := 29) rfl (fun h13 => ?_) (fun h13 => ?_)
    · obtain ⟨g, hg, rfl⟩ := z_in h8 (by omega)
      subst h13
      refine z_al0 (pc' := 30) 15 rfl rfl ?_
      refine z_getf (pc' := 33) 16 rfl rfl f_Wb_10_11 (by first | exact pcc_5 | exact pcc_6 | exact pcc_7 | exact pcc_8 | exact pcc_9 | exact pcc_10 | exact pcc_11 | exact pcc_12 | exact pcc_13 | exact pcc_14 | exact pcc_15 | exact pcc_22 | (rw [pcc_o (by decide)]; assumption)) (by rfl) ?_
      refine z_getr (pc' := 36) 17 rfl rfl f_Wb_97_3 (by first | exact pcc_5 | exact pcc_6 | exact pcc_7 | exact pcc_8 | exact pcc_9 | exact pcc_10 | exact pcc_11 | exact pcc_12 | exact pcc_13 | exact pcc_14 | exact pcc_15 | exact pcc_22 | (rw [pcc_o (by decide)]; assumption)) (by rfl) ?_
      refine z_getr (pc' := 39) 18 rfl rfl f_Wb_100_4 (by first | exact pcc_5 | exact pcc_6 | exact pcc_7 | exact pcc_8 | exact pcc_9 | exact pcc_10 | exact pcc_11 | exact pcc_12 | exact pcc_13 | exact pcc_14 | exact pcc_15 | exact pcc_22 | (rw [pcc_o (by decide)]; assumption)) (by rfl) ?_
      refine z_il1 (pc' := 40) 19 rfl rfl ?_
      refine z_iald (pc' := 41) 20 rfl rfl (by first | exact pcc_5 | exact pcc_6 | exact pcc_7 | exact pcc_8 | exact pcc_9 | exact pcc_10 | exact pcc_11 | exact pcc_12 | exact pcc_13 | exact pcc_14 | exact pcc_15 | exact pcc_22 | (rw [pcc_o (by decide)]; assumption)) (by omega) (by decide) ?_
      refine z_is3 rfl rfl (pc' := 42) 21 rfl rfl ?_
      refine z_al0 (pc' := 43) 22 rfl rfl ?_
      refine z_getf (pc' := 46) 23 rfl rfl f_Wb_10_11 (by first | exact pcc_5 | exact pcc_6 | exact pcc_7 | exact pcc_8 | exact pcc_9 | exact pcc_10 | exact pcc_11 | exact pcc_12 | exact pcc_13 | exact pcc_14 | exact pcc_15 | exact pcc_22 | (rw [pcc_o (by decide)]; assumption)) (by rfl) ?_
      refine z_getr (pc' := 49) 24 rfl rfl f_Wb_97_3 (by first | exact pcc_5 | exact pcc_6 | exact pcc_7 | exact pcc_8 | exact pcc_9 | exact pcc_10 | exact pcc_11 | exact pcc_12 | exact pcc_13 | exact pcc_14 | exact pcc_15 | exact pcc_22 | (rw [pcc_o (by decide)]; assumption)) (by rfl) ?_
      refine z_al0 (pc' := 50) 25 rfl rfl ?_
      refine z_getf (pc' := 53) 26 rfl rfl f_Wb_10_11 (by first | exact pcc_5 | exact pcc_6 | exact pcc_7 | exact pcc_8 | exact pcc_9 | exact pcc_10 | exact pcc_11 | exact pcc_12 | exact pcc_13 | exact pcc_14 | exact pcc_15 | exact pcc_22 | (rw [pcc_o (by decide)]; assumption)) (by rfl) ?_
      refine z_il1 (pc' := 54) 27 rfl rfl ?_
      refine z_il2 (pc' := 55) 28 rfl rfl ?_
      refine z_iconst (v := (-1)) (by decide) (pc' := 56) 29 rfl rfl ?_
      refine z_icmp_ne_f (pc' := 59) 30 rfl rfl (tgt := 64) rfl rfl ?_
      refine z_bipush (v := nI 6) (by decide) (pc' := 61) 31 rfl rfl ?_
      refine z_goto 32 rfl (tgt := 65) rfl ?_
      refine z_callV0 (pc' := 68) 34 rfl rfl k_Wb_142 (by first | exact pcc_5 | exact pcc_6 | exact pcc_7 | exact pcc_8 | exact pcc_9 | exact pcc_10 | exact pcc_11 | exact pcc_12 | exact pcc_13 | exact pcc_14 | exact pcc_15 | exact pcc_22 | (rw [pcc_o (by decide)]; assumption)) (c_promiseToC (by omega)) (by decide) (Nat.le_refl _) (Nat.le_refl _) rfl rfl (Nat.le_of_ble_eq_true rfl) ?_
      refine z_il3 (pc' := 69) 35 rfl rfl ?_
      exact z_ireturn 36 rfl rfl (by first | rfl | exact zbo_nar) rfl rfl (by show cK μ _ _ _; rw [f_promise, if_pos h8, if_pos rfl, tN_n (by omega)]; exact cK_of hst rfl rfl (⟨hi, iX_pr hi hx hg (Or.inr rfl), hmo, hrc⟩))
    · refine z_al0 (pc' := 17) 8 rfl rfl ?_
      refine z_getf (pc' := 20) 9 rfl rfl f_Wb_10_11 (by first | exact pcc_5 | exact pcc_6 | exact pcc_7 | exact pcc_8 | exact pcc_9 | exact pcc_10 | exact pcc_11 | exact pcc_12 | exact pcc_13 | exact pcc_14 | exact pcc_15 | exact pcc_22 | (rw [pcc_o (by decide)]; assumption)) (by rfl) ?_
      refine z_il2 (pc' := 21) 10 rfl rfl ?_
      refine z_callV1 (pc' := 24) 11 rfl rfl k_Wb_117 (by first | exact pcc_5 | exact pcc_6 | exact pcc_7 | exact pcc_8 | exact pcc_9 | exact pcc_10 | exact pcc_11 | exact pcc_12 | exact pcc_13 | exact pcc_14 | exact pcc_15 | exact pcc_22 | (rw [pcc_o (by decide)]; assumption)) (c_Co_hasWind isCo_pcc hi _) (by decide) (Nat.le_refl _) (Nat.le_refl _) rfl rfl (Nat.le_of_ble_eq_true rfl) ?_
      first | refine z_if_neB (pc' := 27) 12 rfl rfl (tgt := 29) rfl (fun h24 => ?_) (fun h24 => ?_) | refine z_if_neN (pc' := 27) 12 rfl rfl (tgt := 29) rfl (by omega) (fun h24 => ?_) (fun h24 => ?_) | refine z_if_ne (pc' := 27) 12 rfl rfl (tgt := 29) rfl (fun h24 => ?_) (fun h24 => ?_)
      · obtain ⟨g, hg, rfl⟩ := z_in h8 (by omega)
        obtain ⟨w, hw, rfl⟩ := z_in h24 (by omega)
        refine z_al0 (pc' := 30) 15 rfl rfl ?_
        refine z_getf (pc' := 33) 16 rfl rfl f_Wb_10_11 (by first | exact pcc_5 | exact pcc_6 | exact pcc_7 | exact pcc_8 | exact pcc_9 | exact pcc_10 | exact pcc_11 | exact pcc_12 | exact pcc_13 | exact pcc_14 | exact pcc_15 | exact pcc_22 | (rw [pcc_o (by decide)]; assumption)) (by rfl) ?_
        refine z_getr (pc' := 36) 17 rfl rfl f_Wb_97_3 (by first | exact pcc_5 | exact pcc_6 | exact pcc_7 | exact pcc_8 | exact pcc_9 | exact pcc_10 | exact pcc_11 | exact pcc_12 | exact pcc_13 | exact pcc_14 | exact pcc_15 | exact pcc_22 | (rw [pcc_o (by decide)]; assumption)) (by rfl) ?_
        refine z_getr (pc' := 39) 18 rfl rfl f_Wb_100_4 (by first | exact pcc_5 | exact pcc_6 | exact pcc_7 | exact pcc_8 | exact pcc_9 | exact pcc_10 | exact pcc_11 | exact pcc_12 | exact pcc_13 | exact pcc_14 | exact pcc_15 | exact pcc_22 | (rw [pcc_o (by decide)]; assumption)) (by rfl) ?_
        refine z_il1 (pc' := 40) 19 rfl rfl ?_
        refine z_iald (pc' := 41) 20 rfl rfl (by first | exact pcc_5 | exact pcc_6 | exact pcc_7 | exact pcc_8 | exact pcc_9 | exact pcc_10 | exact pcc_11 | exact pcc_12 | exact pcc_13 | exact pcc_14 | exact pcc_15 | exact pcc_22 | (rw [pcc_o (by decide)]; assumption)) (by omega) (by decide) ?_
        refine z_is3 rfl rfl (pc' := 42) 21 rfl rfl ?_
        refine z_al0 (pc' := 43) 22 rfl rfl ?_
        refine z_getf (pc' := 46) 23 rfl rfl f_Wb_10_11 (by first | exact pcc_5 | exact pcc_6 | exact pcc_7 | exact pcc_8 | exact pcc_9 | exact pcc_10 | exact pcc_11 | exact pcc_12 | exact pcc_13 | exact pcc_14 | exact pcc_15 | exact pcc_22 | (rw [pcc_o (by decide)]; assumption)) (by rfl) ?_
        refine z_getr (pc' := 49) 24 rfl rfl f_Wb_97_3 (by first | exact pcc_5 | exact pcc_6 | exact pcc_7 | exact pcc_8 | exact pcc_9 | exact pcc_10 | exact pcc_11 | exact pcc_12 | exact pcc_13 | exact pcc_14 | exact pcc_15 | exact pcc_22 | (rw [pcc_o (by decide)]; assumption)) (by rfl) ?_
        refine z_al0 (pc' := 50) 25 rfl rfl ?_
        refine z_getf (pc' := 53) 26 rfl rfl f_Wb_10_11 (by first | exact pcc_5 | exact pcc_6 | exact pcc_7 | exact pcc_8 | exact pcc_9 | exact pcc_10 | exact pcc_11 | exact pcc_12 | exact pcc_13 | exact pcc_14 | exact pcc_15 | exact pcc_22 | (rw [pcc_o (by decide)]; assumption)) (by rfl) ?_
        refine z_il1 (pc' := 54) 27 rfl rfl ?_
        refine z_il2 (pc' := 55) 28 rfl rfl ?_
        refine z_iconst (v := (-1)) (by decide) (pc' := 56) 29 rfl rfl ?_
        refine z_icmp_ne_t 30 rfl (tgt := 64) rfl h13 ?_
        refine z_il2 (pc' := 65) 33 rfl rfl ?_
        refine z_callV0 (pc' := 68) 34 rfl rfl k_Wb_142 (by first | exact pcc_5 | exact pcc_6 | exact pcc_7 | exact pcc_8 | exact pcc_9 | exact pcc_10 | exact pcc_11 | exact pcc_12 | exact pcc_13 | exact pcc_14 | exact pcc_15 | exact pcc_22 | (rw [pcc_o (by decide)]; assumption)) (c_promiseToC (by omega)) (by decide) (Nat.le_refl _) (Nat.le_refl _) rfl rfl (Nat.le_of_ble_eq_true rfl) ?_
        refine z_il3 (pc' := 69) 35 rfl rfl ?_
        exact z_ireturn 36 rfl rfl (by first | rfl | exact zbo_nar) rfl rfl (by show cK μ _ _ _; rw [f_promise, if_pos h8, if_neg h13, if_pos h24, tN_n (by omega), tN_n (by omega)]; exact cK_of hst rfl rfl (⟨hi, iX_pr hi hx hg (Or.inl hw), hmo, hrc⟩))
      · refine z_iconst (v := (-1)) (by decide) (pc' := 28) 13 rfl rfl ?_
        exact z_ireturn 14 rfl rfl (by first | rfl | exact zbo_nar) rfl rfl (by show cK μ _ _ _; rw [f_promise, if_pos h8, if_neg h13, if_neg h24]; exact cK_of hst rfl rfl (hk5))
set_option maxHeartbeats 4000000 in
set_option maxRecDepth 100000 in
theorem c_Mo_promise {G : zG} {n u : Nat} {μ : Nat → va_E} {κ : zκ} {s : Nat → Int32} (h : mst μ s κ) (x y : Int32) :
    zMet G 2 M_Mo_promise [.ref 88, .int x, .int y] n u μ n u (mK μ s (f_promise κ x y)) := by
  obtain ⟨S, mo, pr, fa, sc, ch, rc, D⟩ := κ
  have hst := h
  obtain ⟨⟨ρ, h1, hD⟩, h2, ⟨q93, h93⟩, ⟨q91, h91⟩, ⟨q94, h94⟩, ⟨q95, h95⟩, ⟨q96, h96⟩, ⟨q97, h97⟩, h5⟩ := h
  have hk5 := h5
  obtain ⟨hi, hx, hmo, hrc⟩ := h5
  have hi0 := hi.1
  have hi1 := hi.2.1
  have hi2 := hi.2.2.1
  have hi3 := hi.2.2.2.2.1
  have hm16 : mo ≤ 16 := by omega
  refine z_start (lv := [.ref 88, .int x, .int y, .retAddr 0]) K_Mo_promise rfl rfl (Nat.le_refl _) (Nat.le_refl _) (Nat.le_of_ble_eq_true rfl) rfl ?_
  refine z_mu (show μ = pm (zu (zu μ 91 (.inl (0, 618, .inl q91))) 93 (.inl (1, 100, .inl q93))) s (mk S mo pr fa sc ch rc ρ) by rw [zu_id h91, zu_id h93, pm_id h2 h1]) ?_
  refine z_al0 (pc' := 1) 0 rfl rfl ?_
  refine z_il1 (pc' := 2) 1 rfl rfl ?_
  refine z_callV1 (pc' := 5) 2 rfl rfl k_Mo_92 (by first | exact pm_f | exact pm_1 | (rw [pm_o (by decide)]; first | exact zu_s | (rw [zu_n (by decide)]; first | exact zu_s | (rw [zu_n (by decide)]; assumption)))) (c_Mo_isGirl hi _) (by decide) (Nat.le_refl _) (Nat.le_refl _) rfl rfl (Nat.le_of_ble_eq_true rfl) ?_
  first | refine z_if_eqB (pc' := 8) 3 rfl rfl (tgt := 21) rfl (fun h5 => ?_) (fun h5 => ?_) | refine z_if_eqN (pc' := 8) 3 rfl rfl (tgt := 21) rfl (by omega) (fun h5 => ?_) (fun h5 => ?_) | refine z_if_eq (pc' := 8) 3 rfl rfl (tgt := 21) rfl (fun h5 => ?_) (fun h5 => ?_)
  · refine z_iconst (v := (-1)) (by decide) (pc' := 22) 11 rfl rfl ?_
    exact z_ireturn 12 rfl rfl (by first | rfl | exact zbo_nar) rfl rfl (by show mK μ s _ _ _; rw [f_promise, if_neg h5]; exact mK_of3 hst (sEq_r) hD (hk5))
  · refine z_il2 (pc' := 9) 4 rfl rfl ?_
    refine z_iconst (v := (-1)) (by decide) (pc' := 10) 5 rfl rfl ?_
    first | refine z_icmp_eqN (pc' := 13) 6 rfl rfl (tgt := 23) rfl (by omega) (by omega) (fun h10 => ?_) (fun h10 => ?_) | refine z_icmp_eq (pc' := 13) 6 rfl rfl (tgt := 23) rfl (fun h10 => ?_) (fun h10 => ?_)
    · obtain ⟨g, hg, rfl⟩ := z_in h5 (by omega)
      subst h10
      refine z_al0 (pc' := 24) 13 rfl rfl ?_
      refine z_il1 (pc' := 25) 14 rfl rfl ?_
      refine z_iconst (v := nI 3) (by decide) (pc' := 26) 15 rfl rfl ?_
      refine z_callV1 (pc' := 29) 16 rfl rfl k_Mo_75 (by first | exact pm_f | exact pm_1 | (rw [pm_o (by decide)]; first | exact zu_s | (rw [zu_n (by decide)]; first | exact zu_s | (rw [zu_n (by decide)]; assumption)))) (c_Mo_of3 (by omega)) (by decide) (Nat.le_refl _) (Nat.le_refl _) rfl rfl (Nat.le_of_ble_eq_true rfl) ?_
      refine z_callS1 (pc' := 32) 17 rfl rfl k_Mo_100 (c_Mo_orSix (hx _).1) (by decide) (Nat.le_refl _) (Nat.le_refl _) rfl rfl (Nat.le_of_ble_eq_true rfl) ?_
      refine z_is3 rfl rfl (pc' := 33) 18 rfl rfl ?_
      refine z_al0 (pc' := 34) 19 rfl rfl ?_
      refine z_il1 (pc' := 35) 20 rfl rfl ?_
      refine z_il2 (pc' := 36) 21 rfl rfl ?_
      
      refine z_callV0 (pc' := 39) 22 rfl rfl k_Mo_116 (by first | exact pm_f | exact pm_1 | (rw [pm_o (by decide)]; first | exact zu_s | (rw [zu_n (by decide)]; first | exact zu_s | (rw [zu_n (by decide)]; assumption)))) (c_Mo_gets (w := 6) (by omega)) (by decide) (Nat.le_refl _) (Nat.le_refl _) rfl rfl (Nat.le_of_ble_eq_true rfl) ?_
      refine z_il3 (pc' := 40) 23 rfl rfl ?_
      exact z_ireturn 24 rfl rfl (by first | rfl | exact zbo_nar) rfl rfl (by show mK μ s _ _ _; rw [f_promise, if_pos h5, if_pos rfl, tN_n (by omega)]; exact mK_of3 hst (sEq_r) hD (⟨hi, iX_pr hi hx hg (Or.inr rfl), hmo, hrc⟩))
    · refine z_al0 (pc' := 14) 7 rfl rfl ?_
      refine z_il2 (pc' := 15) 8 rfl rfl ?_
      refine z_callV1 (pc' := 18) 9 rfl rfl k_Mo_106 (by first | exact pm_f | exact pm_1 | (rw [pm_o (by decide)]; first | exact zu_s | (rw [zu_n (by decide)]; first | exact zu_s | (rw [zu_n (by decide)]; assumption)))) (c_Mo_isWind hi _) (by decide) (Nat.le_refl _) (Nat.le_refl _) rfl rfl (Nat.le_of_ble_eq_true rfl) ?_
      first | refine z_if_neB (pc' := 21) 10 rfl rfl (tgt := 23) rfl (fun h18 => ?_) (fun h18 => ?_) | refine z_if_neN (pc' := 21) 10 rfl rfl (tgt := 23) rfl (by omega) (fun h18 => ?_) (fun h18 => ?_) | refine z_if_ne (pc' := 21) 10 rfl rfl (tgt := 23) rfl (fun h18 => ?_) (fun h18 => ?_)
      · obtain ⟨g, hg, rfl⟩ := z_in h5 (by omega)
        obtain ⟨w, hw, rfl⟩ := z_in h18 (by omega)
        refine z_al0 (pc' := 24) 13 rfl rfl ?_
        refine z_il1 (pc' := 25) 14 rfl rfl ?_
        refine z_iconst (v := nI 3) (by decide) (pc' := 26) 15 rfl rfl ?_
        refine z_callV1 (pc' := 29) 16 rfl rfl k_Mo_75 (by first | exact pm_f | exact pm_1 | (rw [pm_o (by decide)]; first | exact zu_s | (rw [zu_n (by decide)]; first | exact zu_s | (rw [zu_n (by decide)]; assumption)))) (c_Mo_of3 (by omega)) (by decide) (Nat.le_refl _) (Nat.le_refl _) rfl rfl (Nat.le_of_ble_eq_true rfl) ?_
        refine z_callS1 (pc' := 32) 17 rfl rfl k_Mo_100 (c_Mo_orSix (hx _).1) (by decide) (Nat.le_refl _) (Nat.le_refl _) rfl rfl (Nat.le_of_ble_eq_true rfl) ?_
        refine z_is3 rfl rfl (pc' := 33) 18 rfl rfl ?_
        refine z_al0 (pc' := 34) 19 rfl rfl ?_
        refine z_il1 (pc' := 35) 20 rfl rfl ?_
        refine z_il2 (pc' := 36) 21 rfl rfl ?_
        refine z_te (hasI_n (show w ≠ 6 by omega)).symm ?_
        refine z_callV0 (pc' := 39) 22 rfl rfl k_Mo_116 (by first | exact pm_f | exact pm_1 | (rw [pm_o (by decide)]; first | exact zu_s | (rw [zu_n (by decide)]; first | exact zu_s | (rw [zu_n (by decide)]; assumption)))) (c_Mo_gets (by omega)) (by decide) (Nat.le_refl _) (Nat.le_refl _) rfl rfl (Nat.le_of_ble_eq_true rfl) ?_
        refine z_il3 (pc' := 40) 23 rfl rfl ?_
        exact z_ireturn 24 rfl rfl (by first | rfl | exact zbo_nar) rfl rfl (by show mK μ s _ _ _; rw [f_promise, if_pos h5, if_neg h10, if_pos h18, tN_n (by omega), tN_n (by omega)]; exact mK_of3 hst (sEq_r) hD (⟨hi, iX_pr hi hx hg (Or.inl hw), hmo, hrc⟩))
      · refine z_iconst (v := (-1)) (by decide) (pc' := 22) 11 rfl rfl ?_
        exact z_ireturn 12 rfl rfl (by first | rfl | exact zbo_nar) rfl rfl (by show mK μ s _ _ _; rw [f_promise, if_pos h5, if_neg h10, if_neg h18]; exact mK_of3 hst (sEq_r) hD (hk5))
set_option maxHeartbeats 4000000 in
set_option maxRecDepth 100000 in
theorem c_Wb_gain {G : zG} {n u : Nat} {μ : Nat → va_E} {κ : zκ} {kp : Int32} {ac : Value} (h : cst μ κ) (hob : isOb μ kp ac) (x y z : Int32) :
    zMet G 2 M_Wb_gain [.ref 4, .int x, .int y, .int z] n u μ n u (cK μ (f_gain κ x y z)) := by
  obtain ⟨S, mo, pr, fa, sc, ch, rc, D⟩ := κ
  have hst := h
  obtain ⟨h1, ⟨cs, q, h2⟩, ⟨β, its, h3, h3a, h3b⟩, ⟨c23, h4⟩, h5⟩ := h
  have hk5 := h5
  obtain ⟨hi, hx, hmo, hrc⟩ := h5
  have hi0 := hi.1
  have hi1 := hi.2.1
  have hi2 := hi.2.2.1
  have hi3 := hi.2.2.2.2.1
  refine z_start (lv := [.ref 4, .int x, .int y, .int z]) K_Wb_gain rfl rfl (Nat.le_refl _) (Nat.le_refl _) (Nat.le_of_ble_eq_true rfl) rfl ?_
  unfold isOb at hob
  refine z_mu (pcc_id h1 h2).symm ?_
  refine z_al0 (pc' := 1) 0 rfl rfl ?_
  refine z_getf (pc' := 4) 1 rfl rfl f_Wb_10_11 (by first | exact pcc_5 | exact pcc_6 | exact pcc_7 | exact pcc_8 | exact pcc_9 | exact pcc_10 | exact pcc_11 | exact pcc_12 | exact pcc_13 | exact pcc_14 | exact pcc_15 | exact pcc_22 | (rw [pcc_o (by decide)]; assumption)) (by rfl) ?_
  refine z_il1 (pc' := 5) 2 rfl rfl ?_
  refine z_callV1 (pc' := 8) 3 rfl rfl k_Wb_84 (by first | exact pcc_5 | exact pcc_6 | exact pcc_7 | exact pcc_8 | exact pcc_9 | exact pcc_10 | exact pcc_11 | exact pcc_12 | exact pcc_13 | exact pcc_14 | exact pcc_15 | exact pcc_22 | (rw [pcc_o (by decide)]; assumption)) (c_Co_hasGirl isCo_pcc hi _) (by decide) (Nat.le_refl _) (Nat.le_refl _) rfl rfl (Nat.le_of_ble_eq_true rfl) ?_
  first | refine z_if_eqB (pc' := 11) 4 rfl rfl (tgt := 32) rfl (fun h8 => ?_) (fun h8 => ?_) | refine z_if_eqN (pc' := 11) 4 rfl rfl (tgt := 32) rfl (by omega) (fun h8 => ?_) (fun h8 => ?_) | refine z_if_eq (pc' := 11) 4 rfl rfl (tgt := 32) rfl (fun h8 => ?_) (fun h8 => ?_)
  · refine z_iconst (v := (-1)) (by decide) (pc' := 33) 15 rfl rfl ?_
    exact z_ireturn 16 rfl rfl (by first | rfl | exact zbo_nar) rfl rfl (by show cK μ _ _ _; rw [f_gain, if_neg (fun z0 => h8 z0.1)]; exact cK_of hst rfl rfl (hk5))
  · refine z_al0 (pc' := 12) 5 rfl rfl ?_
    refine z_getf (pc' := 15) 6 rfl rfl f_Wb_10_11 (by first | exact pcc_5 | exact pcc_6 | exact pcc_7 | exact pcc_8 | exact pcc_9 | exact pcc_10 | exact pcc_11 | exact pcc_12 | exact pcc_13 | exact pcc_14 | exact pcc_15 | exact pcc_22 | (rw [pcc_o (by decide)]; assumption)) (by rfl) ?_
    refine z_il2 (pc' := 16) 7 rfl rfl ?_
    refine z_callV1 (pc' := 19) 8 rfl rfl k_Wb_117 (by first | exact pcc_5 | exact pcc_6 | exact pcc_7 | exact pcc_8 | exact pcc_9 | exact pcc_10 | exact pcc_11 | exact pcc_12 | exact pcc_13 | exact pcc_14 | exact pcc_15 | exact pcc_22 | (rw [pcc_o (by decide)]; assumption)) (c_Co_hasWind isCo_pcc hi _) (by decide) (Nat.le_refl _) (Nat.le_refl _) rfl rfl (Nat.le_of_ble_eq_true rfl) ?_
    first | refine z_if_eqB (pc' := 22) 9 rfl rfl (tgt := 32) rfl (fun h19 => ?_) (fun h19 => ?_) | refine z_if_eqN (pc' := 22) 9 rfl rfl (tgt := 32) rfl (by omega) (fun h19 => ?_) (fun h19 => ?_) | refine z_if_eq (pc' := 22) 9 rfl rfl (tgt := 32) rfl (fun h19 => ?_) (fun h19 => ?_)
    · refine z_iconst (v := (-1)) (by decide) (pc' := 33) 15 rfl rfl ?_
      exact z_ireturn 16 rfl rfl (by first | rfl | exact zbo_nar) rfl rfl (by show cK μ _ _ _; rw [f_gain, if_neg (fun z0 => h19 z0.2.1)]; exact cK_of hst rfl rfl (hk5))
    · refine z_il3 (pc' := 23) 10 rfl rfl ?_
      refine z_iconst (v := nI 0) (by decide) (pc' := 24) 11 rfl rfl ?_
      refine z_bipush (v := nI 15) (by decide) (pc' := 26) 12 rfl rfl ?_
      refine z_callS1 (pc' := 29) 13 rfl rfl k_Wb_72 (c_Wb_within _ _ _) (by decide) (Nat.le_refl _) (Nat.le_refl _) rfl rfl (Nat.le_of_ble_eq_true rfl) ?_
      first | refine z_if_neB (pc' := 32) 14 rfl rfl (tgt := 34) rfl (fun h29 => ?_) (fun h29 => ?_) | refine z_if_neN (pc' := 32) 14 rfl rfl (tgt := 34) rfl (by omega) (fun h29 => ?_) (fun h29 => ?_) | refine z_if_ne (pc' := 32) 14 rfl rfl (tgt := 34) rfl (fun h29 => ?_) (fun h29 => ?_)
      · obtain ⟨g, hg, rfl⟩ := z_in h8 (by omega)
        obtain ⟨w, hw, rfl⟩ := z_in h19 (by omega)
        obtain ⟨j, hj0, hj5, rfl⟩ := z_wi h29 (by decide) (by decide)
        refine z_al0 (pc' := 35) 17 rfl rfl ?_
        refine z_getf (pc' := 38) 18 rfl rfl f_Wb_10_11 (by first | exact pcc_5 | exact pcc_6 | exact pcc_7 | exact pcc_8 | exact pcc_9 | exact pcc_10 | exact pcc_11 | exact pcc_12 | exact pcc_13 | exact pcc_14 | exact pcc_15 | exact pcc_22 | (rw [pcc_o (by decide)]; assumption)) (by rfl) ?_
        refine z_il1 (pc' := 39) 19 rfl rfl ?_
        refine z_il2 (pc' := 40) 20 rfl rfl ?_
        refine z_il3 (pc' := 41) 21 rfl rfl ?_
        refine z_callV1 (pc' := 44) 22 rfl rfl k_Wb_146 (by first | exact pcc_5 | exact pcc_6 | exact pcc_7 | exact pcc_8 | exact pcc_9 | exact pcc_10 | exact pcc_11 | exact pcc_12 | exact pcc_13 | exact pcc_14 | exact pcc_15 | exact pcc_22 | (rw [pcc_o (by decide)]; assumption)) (c_Co_gainBy isCo_pcc hi (by omega) (by omega) (by omega)) (by decide) (Nat.le_refl _) (Nat.le_refl _) rfl rfl (Nat.le_of_ble_eq_true rfl) ?_
        exact z_ireturn 23 rfl rfl (by first | rfl | exact zbo_nar) rfl rfl (by show cK μ _ _ _; rw [f_gain, if_pos ⟨h8, h19, h29⟩, tN_n (by omega), tN_n (by omega), tN_n (by omega)]; exact cK_of hst rfl rfl (hk5))
      · refine z_iconst (v := (-1)) (by decide) (pc' := 33) 15 rfl rfl ?_
        exact z_ireturn 16 rfl rfl (by first | rfl | exact zbo_nar) rfl rfl (by show cK μ _ _ _; rw [f_gain, if_neg (fun z0 => h29 z0.2.2)]; exact cK_of hst rfl rfl (hk5))
set_option maxHeartbeats 4000000 in
set_option maxRecDepth 100000 in
theorem c_Mo_gain {G : zG} {n u : Nat} {μ : Nat → va_E} {κ : zκ} {s : Nat → Int32} (h : mst μ s κ) (x y z : Int32) :
    zMet G 3 M_Mo_gain [.ref 88, .int x, .int y, .int z] n u μ n u (mK μ s (f_gain κ x y z)) := by
  obtain ⟨S, mo, pr, fa, sc, ch, rc, D⟩ := κ
  have hst := h
  obtain ⟨⟨ρ, h1, hD⟩, h2, ⟨q93, h93⟩, ⟨q91, h91⟩, ⟨q94, h94⟩, ⟨q95, h95⟩, ⟨q96, h96⟩, ⟨q97, h97⟩, h5⟩ := h
  have hk5 := h5
  obtain ⟨hi, hx, hmo, hrc⟩ := h5
  have hi0 := hi.1
  have hi1 := hi.2.1
  have hi2 := hi.2.2.1
  have hi3 := hi.2.2.2.2.1
  have hm16 : mo ≤ 16 := by omega
  refine z_start (lv := [.ref 88, .int x, .int y, .int z]) K_Mo_gain rfl rfl (Nat.le_refl _) (Nat.le_refl _) (Nat.le_of_ble_eq_true rfl) rfl ?_
  refine z_mu (show μ = pm (zu (zu μ 91 (.inl (0, 618, .inl q91))) 93 (.inl (1, 100, .inl q93))) s (mk S mo pr fa sc ch rc ρ) by rw [zu_id h91, zu_id h93, pm_id h2 h1]) ?_
  refine z_al0 (pc' := 1) 0 rfl rfl ?_
  refine z_il1 (pc' := 2) 1 rfl rfl ?_
  refine z_callV1 (pc' := 5) 2 rfl rfl k_Mo_92 (by first | exact pm_f | exact pm_1 | (rw [pm_o (by decide)]; first | exact zu_s | (rw [zu_n (by decide)]; first | exact zu_s | (rw [zu_n (by decide)]; assumption)))) (c_Mo_isGirl hi _) (by decide) (Nat.le_refl _) (Nat.le_refl _) rfl rfl (Nat.le_of_ble_eq_true rfl) ?_
  first | refine z_if_eqB (pc' := 8) 3 rfl rfl (tgt := 36) rfl (fun h5 => ?_) (fun h5 => ?_) | refine z_if_eqN (pc' := 8) 3 rfl rfl (tgt := 36) rfl (by omega) (fun h5 => ?_) (fun h5 => ?_) | refine z_if_eq (pc' := 8) 3 rfl rfl (tgt := 36) rfl (fun h5 => ?_) (fun h5 => ?_)
  · refine z_iconst (v := (-1)) (by decide) (pc' := 37) 19 rfl rfl ?_
    exact z_ireturn 20 rfl rfl (by first | rfl | exact zbo_nar) rfl rfl (by show mK μ s _ _ _; rw [f_gain, if_neg (fun z0 => h5 z0.1)]; exact mK_of3 hst (sEq_r) hD (hk5))
  · refine z_al0 (pc' := 9) 4 rfl rfl ?_
    refine z_il2 (pc' := 10) 5 rfl rfl ?_
    refine z_callV1 (pc' := 13) 6 rfl rfl k_Mo_106 (by first | exact pm_f | exact pm_1 | (rw [pm_o (by decide)]; first | exact zu_s | (rw [zu_n (by decide)]; first | exact zu_s | (rw [zu_n (by decide)]; assumption)))) (c_Mo_isWind hi _) (by decide) (Nat.le_refl _) (Nat.le_refl _) rfl rfl (Nat.le_of_ble_eq_true rfl) ?_
    first | refine z_if_eqB (pc' := 16) 7 rfl rfl (tgt := 36) rfl (fun h13 => ?_) (fun h13 => ?_) | refine z_if_eqN (pc' := 16) 7 rfl rfl (tgt := 36) rfl (by omega) (fun h13 => ?_) (fun h13 => ?_) | refine z_if_eq (pc' := 16) 7 rfl rfl (tgt := 36) rfl (fun h13 => ?_) (fun h13 => ?_)
    · refine z_iconst (v := (-1)) (by decide) (pc' := 37) 19 rfl rfl ?_
      exact z_ireturn 20 rfl rfl (by first | rfl | exact zbo_nar) rfl rfl (by show mK μ s _ _ _; rw [f_gain, if_neg (fun z0 => h13 z0.2.1)]; exact mK_of3 hst (sEq_r) hD (hk5))
    · refine z_il3 (pc' := 17) 8 rfl rfl ?_
      refine z_iconst (v := nI 0) (by decide) (pc' := 18) 9 rfl rfl ?_
      refine z_bipush (v := nI 15) (by decide) (pc' := 20) 10 rfl rfl ?_
      refine z_callS1 (pc' := 23) 11 rfl rfl k_Mo_67 (c_Mo_in _ _ _) (by decide) (Nat.le_refl _) (Nat.le_refl _) rfl rfl (Nat.le_of_ble_eq_true rfl) ?_
      first | refine z_if_eqB (pc' := 26) 12 rfl rfl (tgt := 36) rfl (fun h23 => ?_) (fun h23 => ?_) | refine z_if_eqN (pc' := 26) 12 rfl rfl (tgt := 36) rfl (by omega) (fun h23 => ?_) (fun h23 => ?_) | refine z_if_eq (pc' := 26) 12 rfl rfl (tgt := 36) rfl (fun h23 => ?_) (fun h23 => ?_)
      · refine z_iconst (v := (-1)) (by decide) (pc' := 37) 19 rfl rfl ?_
        exact z_ireturn 20 rfl rfl (by first | rfl | exact zbo_nar) rfl rfl (by show mK μ s _ _ _; rw [f_gain, if_neg (fun z0 => h23 z0.2.2)]; exact mK_of3 hst (sEq_r) hD (hk5))
      · obtain ⟨g, hg, rfl⟩ := z_in h5 (by omega)
        obtain ⟨w, hw, rfl⟩ := z_in h13 (by omega)
        obtain ⟨j, hj0, hj5, rfl⟩ := z_wi h23 (by decide) (by decide)
        refine z_al0 (pc' := 27) 13 rfl rfl ?_
        refine z_il1 (pc' := 28) 14 rfl rfl ?_
        refine z_il2 (pc' := 29) 15 rfl rfl ?_
        refine z_il3 (pc' := 30) 16 rfl rfl ?_
        refine z_callV1 (pc' := 33) 17 rfl rfl k_Mo_120 (by first | exact pm_f | exact pm_1 | (rw [pm_o (by decide)]; first | exact zu_s | (rw [zu_n (by decide)]; first | exact zu_s | (rw [zu_n (by decide)]; assumption)))) (c_Mo_gainOf hi (by omega) (by omega) (by omega)) (by decide) (Nat.le_refl _) (Nat.le_refl _) rfl rfl (Nat.le_of_ble_eq_true rfl) ?_
        refine z_goto 18 rfl (tgt := 37) rfl ?_
        exact z_ireturn 20 rfl rfl (by first | rfl | exact zbo_nar) rfl rfl (by show mK μ s _ _ _; rw [f_gain, if_pos ⟨h5, h13, h23⟩, tN_n (by omega), tN_n (by omega), tN_n (by omega)]; exact mK_of3 hst (sEq_r) hD (hk5))
set_option maxHeartbeats 4000000 in
set_option maxRecDepth 100000 in
theorem c_Wb_ends {G : zG} {n u : Nat} {μ : Nat → va_E} {κ : zκ} {kp : Int32} {ac : Value} (h : cst μ κ) (hob : isOb μ kp ac) (x : Int32) :
    zMet G 1 M_Wb_ends [.ref 4, .int x] n u μ n u (cK μ (f_ends κ x)) := by
  obtain ⟨S, mo, pr, fa, sc, ch, rc, D⟩ := κ
  have hst := h
  obtain ⟨h1, ⟨cs, q, h2⟩, ⟨β, its, h3, h3a, h3b⟩, ⟨c23, h4⟩, h5⟩ := h
  have hk5 := h5
  obtain ⟨hi, hx, hmo, hrc⟩ := h5
  have hi0 := hi.1
  have hi1 := hi.2.1
  have hi2 := hi.2.2.1
  have hi3 := hi.2.2.2.2.1
  refine z_start (lv := [.ref 4, .int x, .retAddr 0]) K_Wb_ends rfl rfl (Nat.le_refl _) (Nat.le_refl _) (Nat.le_of_ble_eq_true rfl) rfl ?_
  unfold isOb at hob
  refine z_mu (pcc_id h1 h2).symm ?_
  refine z_il1 (pc' := 1) 0 rfl rfl ?_
  refine z_iconst (v := nI 1) (by decide) (pc' := 2) 1 rfl rfl ?_
  refine z_bipush (v := nI 16) (by decide) (pc' := 4) 2 rfl rfl ?_
  refine z_callS1 (pc' := 7) 3 rfl rfl k_Wb_72 (c_Wb_within _ _ _) (by decide) (Nat.le_refl _) (Nat.le_refl _) rfl rfl (Nat.le_of_ble_eq_true rfl) ?_
  first | refine z_if_neB (pc' := 10) 4 rfl rfl (tgt := 12) rfl (fun h7 => ?_) (fun h7 => ?_) | refine z_if_neN (pc' := 10) 4 rfl rfl (tgt := 12) rfl (by omega) (fun h7 => ?_) (fun h7 => ?_) | refine z_if_ne (pc' := 10) 4 rfl rfl (tgt := 12) rfl (fun h7 => ?_) (fun h7 => ?_)
  · obtain ⟨j, hj0, hj5, rfl⟩ := z_wi h7 (by decide) (by decide)
    refine z_il1 (pc' := 13) 7 rfl rfl ?_
    refine z_al0 (pc' := 14) 8 rfl rfl ?_
    refine z_getf (pc' := 17) 9 rfl rfl f_Wb_10_11 (by first | exact pcc_5 | exact pcc_6 | exact pcc_7 | exact pcc_8 | exact pcc_9 | exact pcc_10 | exact pcc_11 | exact pcc_12 | exact pcc_13 | exact pcc_14 | exact pcc_15 | exact pcc_22 | (rw [pcc_o (by decide)]; assumption)) (by rfl) ?_
    refine z_getr (pc' := 20) 10 rfl rfl f_Wb_97_3 (by first | exact pcc_5 | exact pcc_6 | exact pcc_7 | exact pcc_8 | exact pcc_9 | exact pcc_10 | exact pcc_11 | exact pcc_12 | exact pcc_13 | exact pcc_14 | exact pcc_15 | exact pcc_22 | (rw [pcc_o (by decide)]; assumption)) (by rfl) ?_
    refine z_getf (pc' := 23) 11 rfl rfl f_Wb_135_4 (by first | exact pcc_5 | exact pcc_6 | exact pcc_7 | exact pcc_8 | exact pcc_9 | exact pcc_10 | exact pcc_11 | exact pcc_12 | exact pcc_13 | exact pcc_14 | exact pcc_15 | exact pcc_22 | (rw [pcc_o (by decide)]; assumption)) (by rfl) ?_
    first | refine z_icmp_geN (pc' := 26) 12 rfl rfl (tgt := 29) rfl (by omega) (by omega) (fun h23 => ?_) (fun h23 => ?_) | refine z_icmp_ge (pc' := 26) 12 rfl rfl (tgt := 29) rfl (fun h23 => ?_) (fun h23 => ?_)
    · refine z_al0 (pc' := 30) 15 rfl rfl ?_
      refine z_getf (pc' := 33) 16 rfl rfl f_Wb_10_11 (by first | exact pcc_5 | exact pcc_6 | exact pcc_7 | exact pcc_8 | exact pcc_9 | exact pcc_10 | exact pcc_11 | exact pcc_12 | exact pcc_13 | exact pcc_14 | exact pcc_15 | exact pcc_22 | (rw [pcc_o (by decide)]; assumption)) (by rfl) ?_
      refine z_getf (pc' := 36) 17 rfl rfl f_Wb_149_3 (by first | exact pcc_5 | exact pcc_6 | exact pcc_7 | exact pcc_8 | exact pcc_9 | exact pcc_10 | exact pcc_11 | exact pcc_12 | exact pcc_13 | exact pcc_14 | exact pcc_15 | exact pcc_22 | (rw [pcc_o (by decide)]; assumption)) (by rfl) ?_
      refine z_is2 rfl rfl (pc' := 37) 18 rfl rfl ?_
      refine z_al0 (pc' := 38) 19 rfl rfl ?_
      refine z_getf (pc' := 41) 20 rfl rfl f_Wb_10_11 (by first | exact pcc_5 | exact pcc_6 | exact pcc_7 | exact pcc_8 | exact pcc_9 | exact pcc_10 | exact pcc_11 | exact pcc_12 | exact pcc_13 | exact pcc_14 | exact pcc_15 | exact pcc_22 | (rw [pcc_o (by decide)]; assumption)) (by rfl) ?_
      refine z_il1 (pc' := 42) 21 rfl rfl ?_
      refine z_putf (pc' := 45) 22 rfl rfl f_Wb_149_3 (by first | exact pcc_5 | exact pcc_6 | exact pcc_7 | exact pcc_8 | exact pcc_9 | exact pcc_10 | exact pcc_11 | exact pcc_12 | exact pcc_13 | exact pcc_14 | exact pcc_15 | exact pcc_22 | (rw [pcc_o (by decide)]; assumption)) rfl rfl (by rfl) (by rfl) ?_
      dsimp only [List.set]
      rw [ob5_en, pcc_s5 un0]
      refine z_il2 (pc' := 46) 23 rfl rfl ?_
      exact z_ireturn 24 rfl rfl (by first | rfl | exact zbo_nar) rfl rfl (by show cK μ _ _ _; rw [f_ends, if_pos h7, tN_n (by omega), if_pos h23]; exact cK_of hst rfl rfl (⟨iS_en hi (by omega), hx, h23, hrc⟩))
    · refine z_bipush (v := (-4)) (by decide) (pc' := 28) 13 rfl rfl ?_
      exact z_ireturn 14 rfl rfl (by first | rfl | exact zbo_nar) rfl rfl (by show cK μ _ _ _; rw [f_ends, if_pos h7, tN_n (by omega), if_neg (by omega)]; exact cK_of hst rfl rfl (hk5))
  · refine z_iconst (v := (-1)) (by decide) (pc' := 11) 5 rfl rfl ?_
    exact z_ireturn 6 rfl rfl (by first | rfl | exact zbo_nar) rfl rfl (by show cK μ _ _ _; rw [f_ends, if_neg h7]; exact cK_of hst rfl rfl (hk5))
set_option maxHeartbeats 4000000 in
set_option maxRecDepth 100000 in
theorem c_Mo_ends {G : zG} {n u : Nat} {μ : Nat → va_E} {κ : zκ} {s : Nat → Int32} (h : mst μ s κ) (x : Int32) :
    zMet G 1 M_Mo_ends [.ref 88, .int x] n u μ n u (mK μ s (f_ends κ x)) := by
  obtain ⟨S, mo, pr, fa, sc, ch, rc, D⟩ := κ
  have hst := h
  obtain ⟨⟨ρ, h1, hD⟩, h2, ⟨q93, h93⟩, ⟨q91, h91⟩, ⟨q94, h94⟩, ⟨q95, h95⟩, ⟨q96, h96⟩, ⟨q97, h97⟩, h5⟩ := h
  have hk5 := h5
  obtain ⟨hi, hx, hmo, hrc⟩ := h5
  have hi0 := hi.1
  have hi1 := hi.2.1
  have hi2 := hi.2.2.1
  have hi3 := hi.2.2.2.2.1
  have hm16 : mo ≤ 16 := by omega
  refine z_start (lv := [.ref 88, .int x]) K_Mo_ends rfl rfl (Nat.le_refl _) (Nat.le_refl _) (Nat.le_of_ble_eq_true rfl) rfl ?_
  refine z_mu (show μ = pm (zu (zu μ 91 (.inl (0, 618, .inl q91))) 93 (.inl (1, 100, .inl q93))) s (mk S mo pr fa sc ch rc ρ) by rw [zu_id h91, zu_id h93, pm_id h2 h1]) ?_
  refine z_il1 (pc' := 1) 0 rfl rfl ?_
  refine z_iconst (v := nI 1) (by decide) (pc' := 2) 1 rfl rfl ?_
  refine z_bipush (v := nI 16) (by decide) (pc' := 4) 2 rfl rfl ?_
  refine z_callS1 (pc' := 7) 3 rfl rfl k_Mo_67 (c_Mo_in _ _ _) (by decide) (Nat.le_refl _) (Nat.le_refl _) rfl rfl (Nat.le_of_ble_eq_true rfl) ?_
  first | refine z_if_neB (pc' := 10) 4 rfl rfl (tgt := 12) rfl (fun h7 => ?_) (fun h7 => ?_) | refine z_if_neN (pc' := 10) 4 rfl rfl (tgt := 12) rfl (by omega) (fun h7 => ?_) (fun h7 => ?_) | refine z_if_ne (pc' := 10) 4 rfl rfl (tgt := 12) rfl (fun h7 => ?_) (fun h7 => ?_)
  · obtain ⟨j, hj0, hj5, rfl⟩ := z_wi h7 (by decide) (by decide)
    refine z_il1 (pc' := 13) 7 rfl rfl ?_
    refine z_al0 (pc' := 14) 8 rfl rfl ?_
    refine z_getf (pc' := 17) 9 rfl rfl f_Mo_9_12 (by first | exact pm_f | exact pm_1 | (rw [pm_o (by decide)]; first | exact zu_s | (rw [zu_n (by decide)]; first | exact zu_s | (rw [zu_n (by decide)]; assumption)))) (by rfl) ?_
    refine z_iconst (v := nI 1) (by decide) (pc' := 18) 10 rfl rfl ?_
    refine z_iald (pc' := 19) 11 rfl rfl (by first | exact pm_f | exact pm_1 | (rw [pm_o (by decide)]; first | exact zu_s | (rw [zu_n (by decide)]; first | exact zu_s | (rw [zu_n (by decide)]; assumption)))) (by omega) (by decide) ?_
    rw [mk_1]
    first | refine z_icmp_geN (pc' := 22) 12 rfl rfl (tgt := 27) rfl (by omega) (by omega) (fun h19 => ?_) (fun h19 => ?_) | refine z_icmp_ge (pc' := 22) 12 rfl rfl (tgt := 27) rfl (fun h19 => ?_) (fun h19 => ?_)
    · refine z_al0 (pc' := 28) 15 rfl rfl ?_
      refine z_iconst (v := nI 0) (by decide) (pc' := 29) 16 rfl rfl ?_
      refine z_il1 (pc' := 30) 17 rfl rfl ?_
      refine z_callV1 (pc' := 33) 18 rfl rfl k_Mo_103 (by first | exact pm_f | exact pm_1 | (rw [pm_o (by decide)]; first | exact zu_s | (rw [zu_n (by decide)]; first | exact zu_s | (rw [zu_n (by decide)]; assumption)))) (c_Mo_becomes (by decide)) (by decide) (Nat.le_refl _) (Nat.le_refl _) rfl rfl (Nat.le_of_ble_eq_true rfl) ?_
      rw [mk_0, mk_u_en]
      exact z_ireturn 19 rfl rfl (by first | rfl | exact zbo_nar) rfl rfl (by show mK μ s _ _ _; rw [f_ends, if_pos h7, tN_n (by omega), if_pos h19]; exact mK_of3 hst (sEq_r) hD (⟨iS_en hi (by omega), hx, h19, hrc⟩))
    · refine z_bipush (v := (-4)) (by decide) (pc' := 24) 13 rfl rfl ?_
      refine z_goto 14 rfl (tgt := 33) rfl ?_
      exact z_ireturn 19 rfl rfl (by first | rfl | exact zbo_nar) rfl rfl (by show mK μ s _ _ _; rw [f_ends, if_pos h7, tN_n (by omega), if_neg (by omega)]; exact mK_of3 hst (sEq_r) hD (hk5))
  · refine z_iconst (v := (-1)) (by decide) (pc' := 11) 5 rfl rfl ?_
    exact z_ireturn 6 rfl rfl (by first | rfl | exact zbo_nar) rfl rfl (by show mK μ s _ _ _; rw [f_ends, if_neg h7]; exact mK_of3 hst (sEq_r) hD (hk5))
set_option maxHeartbeats 4000000 in
set_option maxRecDepth 100000 in
theorem c_Wb_seed {G : zG} {n u : Nat} {μ : Nat → va_E} {κ : zκ} {kp : Int32} {ac : Value} (h : cst μ κ) (hob : isOb μ kp ac) (x : Int32) :
    zMet G 0 M_Wb_seed [.ref 4, .int x] n u μ n u (cK μ (f_seed κ x)) := by
  obtain ⟨S, mo, pr, fa, sc, ch, rc, D⟩ := κ
  have hst := h
  obtain ⟨h1, ⟨cs, q, h2⟩, ⟨β, its, h3, h3a, h3b⟩, ⟨c23, h4⟩, h5⟩ := h
  have hk5 := h5
  obtain ⟨hi, hx, hmo, hrc⟩ := h5
  have hi0 := hi.1
  have hi1 := hi.2.1
  have hi2 := hi.2.2.1
  have hi3 := hi.2.2.2.2.1
  refine z_start (lv := [.ref 4, .int x, .retAddr 0]) K_Wb_seed rfl rfl (Nat.le_refl _) (Nat.le_refl _) (Nat.le_of_ble_eq_true rfl) rfl ?_
  unfold isOb at hob
  refine z_mu (pcc_id h1 h2).symm ?_
  refine z_al0 (pc' := 1) 0 rfl rfl ?_
  refine z_getf (pc' := 4) 1 rfl rfl f_Wb_10_11 (by first | exact pcc_5 | exact pcc_6 | exact pcc_7 | exact pcc_8 | exact pcc_9 | exact pcc_10 | exact pcc_11 | exact pcc_12 | exact pcc_13 | exact pcc_14 | exact pcc_15 | exact pcc_22 | (rw [pcc_o (by decide)]; assumption)) (by rfl) ?_
  refine z_getf (pc' := 7) 2 rfl rfl f_Wb_253_3 (by first | exact pcc_5 | exact pcc_6 | exact pcc_7 | exact pcc_8 | exact pcc_9 | exact pcc_10 | exact pcc_11 | exact pcc_12 | exact pcc_13 | exact pcc_14 | exact pcc_15 | exact pcc_22 | (rw [pcc_o (by decide)]; assumption)) (by rfl) ?_
  refine z_is2 rfl rfl (pc' := 8) 3 rfl rfl ?_
  refine z_al0 (pc' := 9) 4 rfl rfl ?_
  refine z_getf (pc' := 12) 5 rfl rfl f_Wb_10_11 (by first | exact pcc_5 | exact pcc_6 | exact pcc_7 | exact pcc_8 | exact pcc_9 | exact pcc_10 | exact pcc_11 | exact pcc_12 | exact pcc_13 | exact pcc_14 | exact pcc_15 | exact pcc_22 | (rw [pcc_o (by decide)]; assumption)) (by rfl) ?_
  refine z_il1 (pc' := 13) 6 rfl rfl ?_
  refine z_putf (pc' := 16) 7 rfl rfl f_Wb_253_3 (by first | exact pcc_5 | exact pcc_6 | exact pcc_7 | exact pcc_8 | exact pcc_9 | exact pcc_10 | exact pcc_11 | exact pcc_12 | exact pcc_13 | exact pcc_14 | exact pcc_15 | exact pcc_22 | (rw [pcc_o (by decide)]; assumption)) rfl rfl (by rfl) (by rfl) ?_
  dsimp only [List.set]
  rw [ob5_ch, pcc_s5 (fun _ _ => rfl)]
  refine z_il2 (pc' := 17) 8 rfl rfl ?_
  exact z_ireturn 9 rfl rfl (by first | rfl | exact zbo_nar) rfl rfl (by show cK μ _ _ _; rw [f_seed]; exact cK_of hst rfl rfl (hk5))
set_option maxHeartbeats 4000000 in
set_option maxRecDepth 100000 in
theorem c_Mo_seed {G : zG} {n u : Nat} {μ : Nat → va_E} {κ : zκ} {s : Nat → Int32} (h : mst μ s κ) (x : Int32) :
    zMet G 1 M_Mo_seed [.ref 88, .int x] n u μ n u (mK μ s (f_seed κ x)) := by
  obtain ⟨S, mo, pr, fa, sc, ch, rc, D⟩ := κ
  have hst := h
  obtain ⟨⟨ρ, h1, hD⟩, h2, ⟨q93, h93⟩, ⟨q91, h91⟩, ⟨q94, h94⟩, ⟨q95, h95⟩, ⟨q96, h96⟩, ⟨q97, h97⟩, h5⟩ := h
  have hk5 := h5
  obtain ⟨hi, hx, hmo, hrc⟩ := h5
  have hi0 := hi.1
  have hi1 := hi.2.1
  have hi2 := hi.2.2.1
  have hi3 := hi.2.2.2.2.1
  have hm16 : mo ≤ 16 := by omega
  refine z_start (lv := [.ref 88, .int x]) K_Mo_seed rfl rfl (Nat.le_refl _) (Nat.le_refl _) (Nat.le_of_ble_eq_true rfl) rfl ?_
  refine z_mu (show μ = pm (zu (zu μ 91 (.inl (0, 618, .inl q91))) 93 (.inl (1, 100, .inl q93))) s (mk S mo pr fa sc ch rc ρ) by rw [zu_id h91, zu_id h93, pm_id h2 h1]) ?_
  refine z_al0 (pc' := 1) 0 rfl rfl ?_
  refine z_iconst (v := nI 5) (by decide) (pc' := 2) 1 rfl rfl ?_
  refine z_il1 (pc' := 3) 2 rfl rfl ?_
  refine z_callV1 (pc' := 6) 3 rfl rfl k_Mo_103 (by first | exact pm_f | exact pm_1 | (rw [pm_o (by decide)]; first | exact zu_s | (rw [zu_n (by decide)]; first | exact zu_s | (rw [zu_n (by decide)]; assumption)))) (c_Mo_becomes (by decide)) (by decide) (Nat.le_refl _) (Nat.le_refl _) rfl rfl (Nat.le_of_ble_eq_true rfl) ?_
  rw [mk_5, mk_u_ch]
  exact z_ireturn 4 rfl rfl (by first | rfl | exact zbo_nar) rfl rfl (by show mK μ s _ _ _; rw [f_seed]; exact mK_of3 hst (sEq_r) hD (hk5))
set_option maxHeartbeats 4000000 in
set_option maxRecDepth 100000 in
theorem c_Wb_forget {G : zG} {n u : Nat} {μ : Nat → va_E} {κ : zκ} {kp : Int32} {ac : Value} (h : cst μ κ) (hob : isOb μ kp ac) :
    zMet G 0 M_Wb_forget [.ref 4] n u μ n u (cK μ (f_forget κ)) := by
  obtain ⟨S, mo, pr, fa, sc, ch, rc, D⟩ := κ
  have hst := h
  obtain ⟨h1, ⟨cs, q, h2⟩, ⟨β, its, h3, h3a, h3b⟩, ⟨c23, h4⟩, h5⟩ := h
  have hk5 := h5
  obtain ⟨hi, hx, hmo, hrc⟩ := h5
  have hi0 := hi.1
  have hi1 := hi.2.1
  have hi2 := hi.2.2.1
  have hi3 := hi.2.2.2.2.1
  refine z_start (lv := [.ref 4, .retAddr 0]) K_Wb_forget rfl rfl (Nat.le_refl _) (Nat.le_refl _) (Nat.le_of_ble_eq_true rfl) rfl ?_
  unfold isOb at hob
  refine z_mu (pcc_id h1 h2).symm ?_
  refine z_al0 (pc' := 1) 0 rfl rfl ?_
  refine z_getf (pc' := 4) 1 rfl rfl f_Wb_10_11 (by first | exact pcc_5 | exact pcc_6 | exact pcc_7 | exact pcc_8 | exact pcc_9 | exact pcc_10 | exact pcc_11 | exact pcc_12 | exact pcc_13 | exact pcc_14 | exact pcc_15 | exact pcc_22 | (rw [pcc_o (by decide)]; assumption)) (by rfl) ?_
  refine z_getf (pc' := 7) 2 rfl rfl f_Wb_241_3 (by first | exact pcc_5 | exact pcc_6 | exact pcc_7 | exact pcc_8 | exact pcc_9 | exact pcc_10 | exact pcc_11 | exact pcc_12 | exact pcc_13 | exact pcc_14 | exact pcc_15 | exact pcc_22 | (rw [pcc_o (by decide)]; assumption)) (by rfl) ?_
  refine z_is1 rfl rfl (pc' := 8) 3 rfl rfl ?_
  refine z_al0 (pc' := 9) 4 rfl rfl ?_
  refine z_getf (pc' := 12) 5 rfl rfl f_Wb_10_11 (by first | exact pcc_5 | exact pcc_6 | exact pcc_7 | exact pcc_8 | exact pcc_9 | exact pcc_10 | exact pcc_11 | exact pcc_12 | exact pcc_13 | exact pcc_14 | exact pcc_15 | exact pcc_22 | (rw [pcc_o (by decide)]; assumption)) (by rfl) ?_
  refine z_iconst (v := nI 0) (by decide) (pc' := 13) 6 rfl rfl ?_
  refine z_putf (pc' := 16) 7 rfl rfl f_Wb_241_3 (by first | exact pcc_5 | exact pcc_6 | exact pcc_7 | exact pcc_8 | exact pcc_9 | exact pcc_10 | exact pcc_11 | exact pcc_12 | exact pcc_13 | exact pcc_14 | exact pcc_15 | exact pcc_22 | (rw [pcc_o (by decide)]; assumption)) rfl rfl (by rfl) (by rfl) ?_
  dsimp only [List.set]
  rw [ob5_nr, pcc_s5 un0]
  refine z_il1 (pc' := 17) 8 rfl rfl ?_
  exact z_ireturn 9 rfl rfl (by first | rfl | exact zbo_nar) rfl rfl (by show cK μ _ _ _; rw [f_forget]; exact cK_of hst rfl rfl (⟨iS_nr hi (by decide), hx, hmo, hrc⟩))
set_option maxHeartbeats 4000000 in
set_option maxRecDepth 100000 in
theorem c_Mo_forget {G : zG} {n u : Nat} {μ : Nat → va_E} {κ : zκ} {s : Nat → Int32} (h : mst μ s κ) :
    zMet G 1 M_Mo_forget [.ref 88] n u μ n u (mK μ s (f_forget κ)) := by
  obtain ⟨S, mo, pr, fa, sc, ch, rc, D⟩ := κ
  have hst := h
  obtain ⟨⟨ρ, h1, hD⟩, h2, ⟨q93, h93⟩, ⟨q91, h91⟩, ⟨q94, h94⟩, ⟨q95, h95⟩, ⟨q96, h96⟩, ⟨q97, h97⟩, h5⟩ := h
  have hk5 := h5
  obtain ⟨hi, hx, hmo, hrc⟩ := h5
  have hi0 := hi.1
  have hi1 := hi.2.1
  have hi2 := hi.2.2.1
  have hi3 := hi.2.2.2.2.1
  have hm16 : mo ≤ 16 := by omega
  refine z_start (lv := [.ref 88]) K_Mo_forget rfl rfl (Nat.le_refl _) (Nat.le_refl _) (Nat.le_of_ble_eq_true rfl) rfl ?_
  refine z_mu (show μ = pm (zu (zu μ 91 (.inl (0, 618, .inl q91))) 93 (.inl (1, 100, .inl q93))) s (mk S mo pr fa sc ch rc ρ) by rw [zu_id h91, zu_id h93, pm_id h2 h1]) ?_
  refine z_al0 (pc' := 1) 0 rfl rfl ?_
  refine z_bipush (v := nI 6) (by decide) (pc' := 3) 1 rfl rfl ?_
  refine z_iconst (v := nI 0) (by decide) (pc' := 4) 2 rfl rfl ?_
  refine z_callV1 (pc' := 7) 3 rfl rfl k_Mo_103 (by first | exact pm_f | exact pm_1 | (rw [pm_o (by decide)]; first | exact zu_s | (rw [zu_n (by decide)]; first | exact zu_s | (rw [zu_n (by decide)]; assumption)))) (c_Mo_becomes (by decide)) (by decide) (Nat.le_refl _) (Nat.le_refl _) rfl rfl (Nat.le_of_ble_eq_true rfl) ?_
  rw [mk_6, mk_u_nr]
  exact z_ireturn 4 rfl rfl (by first | rfl | exact zbo_nar) rfl rfl (by show mK μ s _ _ _; rw [f_forget]; exact mK_of3 hst (sEq_r) hD (⟨iS_nr hi (by decide), hx, hmo, hrc⟩))
set_option maxHeartbeats 4000000 in
set_option maxRecDepth 100000 in
theorem c_Wb_state {G : zG} {n u : Nat} {μ : Nat → va_E} {κ : zκ} {kp : Int32} {ac : Value} (h : cst μ κ) (hob : isOb μ kp ac) (x : Int32) :
    zMet G 1 M_Wb_state [.ref 4, .int x] n u μ n u (cK μ (f_state κ x)) := by
  obtain ⟨S, mo, pr, fa, sc, ch, rc, D⟩ := κ
  have hst := h
  obtain ⟨h1, ⟨cs, q, h2⟩, ⟨β, its, h3, h3a, h3b⟩, ⟨c23, h4⟩, h5⟩ := h
  have hk5 := h5
  obtain ⟨hi, hx, hmo, hrc⟩ := h5
  have hi0 := hi.1
  have hi1 := hi.2.1
  have hi2 := hi.2.2.1
  have hi3 := hi.2.2.2.2.1
  refine z_start (lv := [.ref 4, .int x]) K_Wb_state rfl rfl (Nat.le_refl _) (Nat.le_refl _) (Nat.le_of_ble_eq_true rfl) rfl ?_
  unfold isOb at hob
  refine z_mu (pcc_id h1 h2).symm ?_
  refine z_il1 (pc' := 1) 0 rfl rfl ?_
  first | refine z_swN (by omega) 0 (by decide) (fun h1_0 => ?_) (fun h1_0 => ?_) | refine z_sw 0 (fun h1_0 => ?_) (fun h1_0 => ?_)
  · refine z_tableIn 1 rfl (by decide) (by decide) (off := 31) rfl (tgt := 32) rfl ?_
    refine z_al0 (pc' := 33) 2 rfl rfl ?_
    refine z_getf (pc' := 36) 3 rfl rfl f_Wb_10_11 (by first | exact pcc_5 | exact pcc_6 | exact pcc_7 | exact pcc_8 | exact pcc_9 | exact pcc_10 | exact pcc_11 | exact pcc_12 | exact pcc_13 | exact pcc_14 | exact pcc_15 | exact pcc_22 | (rw [pcc_o (by decide)]; assumption)) (by rfl) ?_
    refine z_getr (pc' := 39) 4 rfl rfl f_Wb_97_3 (by first | exact pcc_5 | exact pcc_6 | exact pcc_7 | exact pcc_8 | exact pcc_9 | exact pcc_10 | exact pcc_11 | exact pcc_12 | exact pcc_13 | exact pcc_14 | exact pcc_15 | exact pcc_22 | (rw [pcc_o (by decide)]; assumption)) (by rfl) ?_
    refine z_getf (pc' := 42) 5 rfl rfl f_Wb_135_4 (by first | exact pcc_5 | exact pcc_6 | exact pcc_7 | exact pcc_8 | exact pcc_9 | exact pcc_10 | exact pcc_11 | exact pcc_12 | exact pcc_13 | exact pcc_14 | exact pcc_15 | exact pcc_22 | (rw [pcc_o (by decide)]; assumption)) (by rfl) ?_
    exact z_ireturn 6 rfl rfl (by first | rfl | exact zbo_nar) rfl rfl (by show cK μ _ _ _; rw [f_state, h1_0, if_pos rfl]; exact cK_of hst rfl rfl (hk5))
  first | refine z_swN (by omega) 1 (by decide) (fun h1_1 => ?_) (fun h1_1 => ?_) | refine z_sw 1 (fun h1_1 => ?_) (fun h1_1 => ?_)
  · refine z_tableIn 1 rfl (by decide) (by decide) (off := 42) rfl (tgt := 43) rfl ?_
    refine z_al0 (pc' := 44) 7 rfl rfl ?_
    refine z_getf (pc' := 47) 8 rfl rfl f_Wb_10_11 (by first | exact pcc_5 | exact pcc_6 | exact pcc_7 | exact pcc_8 | exact pcc_9 | exact pcc_10 | exact pcc_11 | exact pcc_12 | exact pcc_13 | exact pcc_14 | exact pcc_15 | exact pcc_22 | (rw [pcc_o (by decide)]; assumption)) (by rfl) ?_
    refine z_getf (pc' := 50) 9 rfl rfl f_Wb_149_3 (by first | exact pcc_5 | exact pcc_6 | exact pcc_7 | exact pcc_8 | exact pcc_9 | exact pcc_10 | exact pcc_11 | exact pcc_12 | exact pcc_13 | exact pcc_14 | exact pcc_15 | exact pcc_22 | (rw [pcc_o (by decide)]; assumption)) (by rfl) ?_
    exact z_ireturn 10 rfl rfl (by first | rfl | exact zbo_nar) rfl rfl (by show cK μ _ _ _; rw [f_state, h1_1, if_neg (by decide), if_pos rfl]; exact cK_of hst rfl rfl (hk5))
  first | refine z_swN (by omega) 2 (by decide) (fun h1_2 => ?_) (fun h1_2 => ?_) | refine z_sw 2 (fun h1_2 => ?_) (fun h1_2 => ?_)
  · refine z_tableIn 1 rfl (by decide) (by decide) (off := 50) rfl (tgt := 51) rfl ?_
    refine z_al0 (pc' := 52) 11 rfl rfl ?_
    refine z_getf (pc' := 55) 12 rfl rfl f_Wb_10_11 (by first | exact pcc_5 | exact pcc_6 | exact pcc_7 | exact pcc_8 | exact pcc_9 | exact pcc_10 | exact pcc_11 | exact pcc_12 | exact pcc_13 | exact pcc_14 | exact pcc_15 | exact pcc_22 | (rw [pcc_o (by decide)]; assumption)) (by rfl) ?_
    refine z_getf (pc' := 58) 13 rfl rfl f_Wb_152_3 (by first | exact pcc_5 | exact pcc_6 | exact pcc_7 | exact pcc_8 | exact pcc_9 | exact pcc_10 | exact pcc_11 | exact pcc_12 | exact pcc_13 | exact pcc_14 | exact pcc_15 | exact pcc_22 | (rw [pcc_o (by decide)]; assumption)) (by rfl) ?_
    exact z_ireturn 14 rfl rfl (by first | rfl | exact zbo_nar) rfl rfl (by show cK μ _ _ _; rw [f_state, h1_2, if_neg (by decide), if_neg (by decide), if_pos rfl]; exact cK_of hst rfl rfl (hk5))
  first | refine z_swN (by omega) 3 (by decide) (fun h1_3 => ?_) (fun h1_3 => ?_) | refine z_sw 3 (fun h1_3 => ?_) (fun h1_3 => ?_)
  · refine z_tableIn 1 rfl (by decide) (by decide) (off := 58) rfl (tgt := 59) rfl ?_
    refine z_al0 (pc' := 60) 15 rfl rfl ?_
    refine z_getf (pc' := 63) 16 rfl rfl f_Wb_10_11 (by first | exact pcc_5 | exact pcc_6 | exact pcc_7 | exact pcc_8 | exact pcc_9 | exact pcc_10 | exact pcc_11 | exact pcc_12 | exact pcc_13 | exact pcc_14 | exact pcc_15 | exact pcc_22 | (rw [pcc_o (by decide)]; assumption)) (by rfl) ?_
    refine z_callV1 (pc' := 66) 17 rfl rfl k_Wb_155 (by first | exact pcc_5 | exact pcc_6 | exact pcc_7 | exact pcc_8 | exact pcc_9 | exact pcc_10 | exact pcc_11 | exact pcc_12 | exact pcc_13 | exact pcc_14 | exact pcc_15 | exact pcc_22 | (rw [pcc_o (by decide)]; assumption)) (c_Co_isOver hi (by omega)) (by decide) (Nat.le_refl _) (Nat.le_refl _) rfl rfl (Nat.le_of_ble_eq_true rfl) ?_
    first | refine z_if_eqB (pc' := 69) 18 rfl rfl (tgt := 73) rfl (fun h66 => ?_) (fun h66 => ?_) | refine z_if_eqN (pc' := 69) 18 rfl rfl (tgt := 73) rfl (by omega) (fun h66 => ?_) (fun h66 => ?_) | refine z_if_eq (pc' := 69) 18 rfl rfl (tgt := 73) rfl (fun h66 => ?_) (fun h66 => ?_)
    · refine z_iconst (v := nI 0) (by decide) (pc' := 74) 21 rfl rfl ?_
      exact z_ireturn 22 rfl rfl (by first | rfl | exact zbo_nar) rfl rfl (by show cK μ _ _ _; rw [f_state, h1_3, if_neg (by decide), if_neg (by decide), if_neg (by decide), if_pos rfl, if_neg h66]; exact cK_of hst rfl rfl (hk5))
    · refine z_iconst (v := nI 1) (by decide) (pc' := 70) 19 rfl rfl ?_
      refine z_goto 20 rfl (tgt := 74) rfl ?_
      exact z_ireturn 22 rfl rfl (by first | rfl | exact zbo_nar) rfl rfl (by show cK μ _ _ _; rw [f_state, h1_3, if_neg (by decide), if_neg (by decide), if_neg (by decide), if_pos rfl, if_pos h66]; exact cK_of hst rfl rfl (hk5))
  refine z_tableOut 1 rfl (by first | (rw [nI_toInt (by omega)]; omega) | (have e0 := z_ne (by decide) h1_0; have e1 := z_ne (by decide) h1_1; have e2 := z_ne (by decide) h1_2; have e3 := z_ne (by decide) h1_3; omega)) (tgt := 75) rfl ?_
  refine z_iconst (v := (-1)) (by decide) (pc' := 76) 23 rfl rfl ?_
  exact z_ireturn 24 rfl rfl (by first | rfl | exact zbo_nar) rfl rfl (by show cK μ _ _ _; rw [f_state, if_neg h1_0, if_neg h1_1, if_neg h1_2, if_neg h1_3]; exact cK_of hst rfl rfl (hk5))
set_option maxHeartbeats 4000000 in
set_option maxRecDepth 100000 in
theorem c_Mo_state {G : zG} {n u : Nat} {μ : Nat → va_E} {κ : zκ} {s : Nat → Int32} (h : mst μ s κ) (x : Int32) :
    zMet G 1 M_Mo_state [.ref 88, .int x] n u μ n u (mK μ s (f_state κ x)) := by
  obtain ⟨S, mo, pr, fa, sc, ch, rc, D⟩ := κ
  have hst := h
  obtain ⟨⟨ρ, h1, hD⟩, h2, ⟨q93, h93⟩, ⟨q91, h91⟩, ⟨q94, h94⟩, ⟨q95, h95⟩, ⟨q96, h96⟩, ⟨q97, h97⟩, h5⟩ := h
  have hk5 := h5
  obtain ⟨hi, hx, hmo, hrc⟩ := h5
  have hi0 := hi.1
  have hi1 := hi.2.1
  have hi2 := hi.2.2.1
  have hi3 := hi.2.2.2.2.1
  have hm16 : mo ≤ 16 := by omega
  refine z_start (lv := [.ref 88, .int x]) K_Mo_state rfl rfl (Nat.le_refl _) (Nat.le_refl _) (Nat.le_of_ble_eq_true rfl) rfl ?_
  refine z_mu (show μ = pm (zu (zu μ 91 (.inl (0, 618, .inl q91))) 93 (.inl (1, 100, .inl q93))) s (mk S mo pr fa sc ch rc ρ) by rw [zu_id h91, zu_id h93, pm_id h2 h1]) ?_
  refine z_il1 (pc' := 1) 0 rfl rfl ?_
  first | refine z_swN (by omega) 0 (by decide) (fun h1_0 => ?_) (fun h1_0 => ?_) | refine z_sw 0 (fun h1_0 => ?_) (fun h1_0 => ?_)
  · refine z_tableIn 1 rfl (by decide) (by decide) (off := 31) rfl (tgt := 32) rfl ?_
    refine z_al0 (pc' := 33) 2 rfl rfl ?_
    refine z_getf (pc' := 36) 3 rfl rfl f_Mo_9_12 (by first | exact pm_f | exact pm_1 | (rw [pm_o (by decide)]; first | exact zu_s | (rw [zu_n (by decide)]; first | exact zu_s | (rw [zu_n (by decide)]; assumption)))) (by rfl) ?_
    refine z_iconst (v := nI 1) (by decide) (pc' := 37) 4 rfl rfl ?_
    refine z_iald (pc' := 38) 5 rfl rfl (by first | exact pm_f | exact pm_1 | (rw [pm_o (by decide)]; first | exact zu_s | (rw [zu_n (by decide)]; first | exact zu_s | (rw [zu_n (by decide)]; assumption)))) (by omega) (by decide) ?_
    rw [mk_1]
    exact z_ireturn 6 rfl rfl (by first | rfl | exact zbo_nar) rfl rfl (by show mK μ s _ _ _; rw [f_state, h1_0, if_pos rfl]; exact mK_of3 hst (sEq_r) hD (hk5))
  first | refine z_swN (by omega) 1 (by decide) (fun h1_1 => ?_) (fun h1_1 => ?_) | refine z_sw 1 (fun h1_1 => ?_) (fun h1_1 => ?_)
  · refine z_tableIn 1 rfl (by decide) (by decide) (off := 38) rfl (tgt := 39) rfl ?_
    refine z_al0 (pc' := 40) 7 rfl rfl ?_
    refine z_getf (pc' := 43) 8 rfl rfl f_Mo_9_12 (by first | exact pm_f | exact pm_1 | (rw [pm_o (by decide)]; first | exact zu_s | (rw [zu_n (by decide)]; first | exact zu_s | (rw [zu_n (by decide)]; assumption)))) (by rfl) ?_
    refine z_iconst (v := nI 0) (by decide) (pc' := 44) 9 rfl rfl ?_
    refine z_iald (pc' := 45) 10 rfl rfl (by first | exact pm_f | exact pm_1 | (rw [pm_o (by decide)]; first | exact zu_s | (rw [zu_n (by decide)]; first | exact zu_s | (rw [zu_n (by decide)]; assumption)))) (by omega) (by decide) ?_
    rw [mk_0]
    exact z_ireturn 11 rfl rfl (by first | rfl | exact zbo_nar) rfl rfl (by show mK μ s _ _ _; rw [f_state, h1_1, if_neg (by decide), if_pos rfl]; exact mK_of3 hst (sEq_r) hD (hk5))
  first | refine z_swN (by omega) 2 (by decide) (fun h1_2 => ?_) (fun h1_2 => ?_) | refine z_sw 2 (fun h1_2 => ?_) (fun h1_2 => ?_)
  · refine z_tableIn 1 rfl (by decide) (by decide) (off := 45) rfl (tgt := 46) rfl ?_
    refine z_al0 (pc' := 47) 12 rfl rfl ?_
    refine z_getf (pc' := 50) 13 rfl rfl f_Mo_9_12 (by first | exact pm_f | exact pm_1 | (rw [pm_o (by decide)]; first | exact zu_s | (rw [zu_n (by decide)]; first | exact zu_s | (rw [zu_n (by decide)]; assumption)))) (by rfl) ?_
    refine z_iconst (v := nI 4) (by decide) (pc' := 51) 14 rfl rfl ?_
    refine z_iald (pc' := 52) 15 rfl rfl (by first | exact pm_f | exact pm_1 | (rw [pm_o (by decide)]; first | exact zu_s | (rw [zu_n (by decide)]; first | exact zu_s | (rw [zu_n (by decide)]; assumption)))) (by omega) (by decide) ?_
    rw [mk_4]
    exact z_ireturn 16 rfl rfl (by first | rfl | exact zbo_nar) rfl rfl (by show mK μ s _ _ _; rw [f_state, h1_2, if_neg (by decide), if_neg (by decide), if_pos rfl]; exact mK_of3 hst (sEq_r) hD (hk5))
  first | refine z_swN (by omega) 3 (by decide) (fun h1_3 => ?_) (fun h1_3 => ?_) | refine z_sw 3 (fun h1_3 => ?_) (fun h1_3 => ?_)
  · refine z_tableIn 1 rfl (by decide) (by decide) (off := 52) rfl (tgt := 53) rfl ?_
    refine z_al0 (pc' := 54) 17 rfl rfl ?_
    refine z_callV1 (pc' := 57) 18 rfl rfl k_Mo_124 (by first | exact pm_f | exact pm_1 | (rw [pm_o (by decide)]; first | exact zu_s | (rw [zu_n (by decide)]; first | exact zu_s | (rw [zu_n (by decide)]; assumption)))) (c_Mo_isOver hi hm16) (by decide) (Nat.le_refl _) (Nat.le_refl _) rfl rfl (Nat.le_of_ble_eq_true rfl) ?_
    first | refine z_if_eqB (pc' := 60) 19 rfl rfl (tgt := 64) rfl (fun h57 => ?_) (fun h57 => ?_) | refine z_if_eqN (pc' := 60) 19 rfl rfl (tgt := 64) rfl (by omega) (fun h57 => ?_) (fun h57 => ?_) | refine z_if_eq (pc' := 60) 19 rfl rfl (tgt := 64) rfl (fun h57 => ?_) (fun h57 => ?_)
    · refine z_iconst (v := nI 0) (by decide) (pc' := 65) 22 rfl rfl ?_
      exact z_ireturn 23 rfl rfl (by first | rfl | exact zbo_nar) rfl rfl (by show mK μ s _ _ _; rw [f_state, h1_3, if_neg (by decide), if_neg (by decide), if_neg (by decide), if_pos rfl, if_neg h57]; exact mK_of3 hst (sEq_r) hD (hk5))
    · refine z_iconst (v := nI 1) (by decide) (pc' := 61) 20 rfl rfl ?_
      refine z_goto 21 rfl (tgt := 65) rfl ?_
      exact z_ireturn 23 rfl rfl (by first | rfl | exact zbo_nar) rfl rfl (by show mK μ s _ _ _; rw [f_state, h1_3, if_neg (by decide), if_neg (by decide), if_neg (by decide), if_pos rfl, if_pos h57]; exact mK_of3 hst (sEq_r) hD (hk5))
  refine z_tableOut 1 rfl (by first | (rw [nI_toInt (by omega)]; omega) | (have e0 := z_ne (by decide) h1_0; have e1 := z_ne (by decide) h1_1; have e2 := z_ne (by decide) h1_2; have e3 := z_ne (by decide) h1_3; omega)) (tgt := 66) rfl ?_
  refine z_iconst (v := (-1)) (by decide) (pc' := 67) 24 rfl rfl ?_
  exact z_ireturn 25 rfl rfl (by first | rfl | exact zbo_nar) rfl rfl (by show mK μ s _ _ _; rw [f_state, if_neg h1_0, if_neg h1_1, if_neg h1_2, if_neg h1_3]; exact mK_of3 hst (sEq_r) hD (hk5))
set_option maxHeartbeats 4000000 in
set_option maxRecDepth 100000 in
theorem l_Wb_anew {G : zG} {d n u : Nat} {Φ : zP} {ν : Nat → va_E} {S : Nat → Nat → Nat} {sc ch : Int32} {mo cs : Nat} {pr fa q : Nat → Nat} {kp : Int32} {ac : Value} (hob : isOb ν kp ac) (hi : iS S) {v : Int32} (K : zW G d M_Wb_anew 70 [.ref 4, .int v, .int (nI (S 0 0))] [] n u (pcc ν S sc ch mo cs pr (dwF S fa (S 0 0)) q) n u Φ) : ∀ j k, k + j = S 0 0 → zW G d M_Wb_anew 32 [.ref 4, .int v, .int (nI k)] [] n u (pcc ν S sc ch mo cs pr (dwF S fa k) q) n u Φ
  | 0, k, e => by
    have hi0 := hi.1
    obtain rfl : k = S 0 0 := by omega
    unfold isOb at hob
    refine z_il2 (pc' := 33) 16 rfl rfl ?_
    refine z_al0 (pc' := 34) 17 rfl rfl ?_
    refine z_getf (pc' := 37) 18 rfl rfl f_Wb_10_11 (by first | exact pcc_5 | exact pcc_6 | exact pcc_7 | exact pcc_8 | exact pcc_9 | exact pcc_10 | exact pcc_11 | exact pcc_12 | exact pcc_13 | exact pcc_14 | exact pcc_15 | exact pcc_22 | (rw [pcc_o (by decide)]; assumption)) (by rfl) ?_
    refine z_getf (pc' := 40) 19 rfl rfl f_Wb_76_3 (by first | exact pcc_5 | exact pcc_6 | exact pcc_7 | exact pcc_8 | exact pcc_9 | exact pcc_10 | exact pcc_11 | exact pcc_12 | exact pcc_13 | exact pcc_14 | exact pcc_15 | exact pcc_22 | (rw [pcc_o (by decide)]; assumption)) (by rfl) ?_
    first | refine z_icmp_geN (pc' := 43) 20 rfl rfl (tgt := 70) rfl (by omega) (by omega) (fun h40 => ?_) (fun h40 => ?_) | refine z_icmp_ge (pc' := 43) 20 rfl rfl (tgt := 70) rfl (fun h40 => ?_) (fun h40 => ?_)
    · exact K
    · exfalso; omega
  | j + 1, k, e => by
    have hi0 := hi.1
    have hob0 := hob
    unfold isOb at hob
    refine z_il2 (pc' := 33) 16 rfl rfl ?_
    refine z_al0 (pc' := 34) 17 rfl rfl ?_
    refine z_getf (pc' := 37) 18 rfl rfl f_Wb_10_11 (by first | exact pcc_5 | exact pcc_6 | exact pcc_7 | exact pcc_8 | exact pcc_9 | exact pcc_10 | exact pcc_11 | exact pcc_12 | exact pcc_13 | exact pcc_14 | exact pcc_15 | exact pcc_22 | (rw [pcc_o (by decide)]; assumption)) (by rfl) ?_
    refine z_getf (pc' := 40) 19 rfl rfl f_Wb_76_3 (by first | exact pcc_5 | exact pcc_6 | exact pcc_7 | exact pcc_8 | exact pcc_9 | exact pcc_10 | exact pcc_11 | exact pcc_12 | exact pcc_13 | exact pcc_14 | exact pcc_15 | exact pcc_22 | (rw [pcc_o (by decide)]; assumption)) (by rfl) ?_
    first | refine z_icmp_geN (pc' := 43) 20 rfl rfl (tgt := 70) rfl (by omega) (by omega) (fun h40 => ?_) (fun h40 => ?_) | refine z_icmp_ge (pc' := 43) 20 rfl rfl (tgt := 70) rfl (fun h40 => ?_) (fun h40 => ?_)
    · exfalso; omega
    · refine z_al0 (pc' := 44) 21 rfl rfl ?_
      refine z_getf (pc' := 47) 22 rfl rfl f_Wb_10_11 (by first | exact pcc_5 | exact pcc_6 | exact pcc_7 | exact pcc_8 | exact pcc_9 | exact pcc_10 | exact pcc_11 | exact pcc_12 | exact pcc_13 | exact pcc_14 | exact pcc_15 | exact pcc_22 | (rw [pcc_o (by decide)]; assumption)) (by rfl) ?_
      refine z_getr (pc' := 50) 23 rfl rfl f_Wb_97_3 (by first | exact pcc_5 | exact pcc_6 | exact pcc_7 | exact pcc_8 | exact pcc_9 | exact pcc_10 | exact pcc_11 | exact pcc_12 | exact pcc_13 | exact pcc_14 | exact pcc_15 | exact pcc_22 | (rw [pcc_o (by decide)]; assumption)) (by rfl) ?_
      refine z_getr (pc' := 53) 24 rfl rfl f_Wb_103_4 (by first | exact pcc_5 | exact pcc_6 | exact pcc_7 | exact pcc_8 | exact pcc_9 | exact pcc_10 | exact pcc_11 | exact pcc_12 | exact pcc_13 | exact pcc_14 | exact pcc_15 | exact pcc_22 | (rw [pcc_o (by decide)]; assumption)) (by rfl) ?_
      refine z_il2 (pc' := 54) 25 rfl rfl ?_
      refine z_al0 (pc' := 55) 26 rfl rfl ?_
      refine z_getf (pc' := 58) 27 rfl rfl f_Wb_10_11 (by first | exact pcc_5 | exact pcc_6 | exact pcc_7 | exact pcc_8 | exact pcc_9 | exact pcc_10 | exact pcc_11 | exact pcc_12 | exact pcc_13 | exact pcc_14 | exact pcc_15 | exact pcc_22 | (rw [pcc_o (by decide)]; assumption)) (by rfl) ?_
      refine z_getr (pc' := 61) 28 rfl rfl f_Wb_94_3 (by first | exact pcc_5 | exact pcc_6 | exact pcc_7 | exact pcc_8 | exact pcc_9 | exact pcc_10 | exact pcc_11 | exact pcc_12 | exact pcc_13 | exact pcc_14 | exact pcc_15 | exact pcc_22 | (rw [pcc_o (by decide)]; assumption)) (by rfl) ?_
      refine z_il2 (pc' := 62) 29 rfl rfl ?_
      refine z_iald (pc' := 63) 30 rfl rfl (by first | exact pcc_5 | exact pcc_6 | exact pcc_7 | exact pcc_8 | exact pcc_9 | exact pcc_10 | exact pcc_11 | exact pcc_12 | exact pcc_13 | exact pcc_14 | exact pcc_15 | exact pcc_22 | (rw [pcc_o (by decide)]; assumption)) (by omega) (by decide) ?_
      refine z_iast (pc' := 64) 31 rfl rfl (by first | exact pcc_5 | exact pcc_6 | exact pcc_7 | exact pcc_8 | exact pcc_9 | exact pcc_10 | exact pcc_11 | exact pcc_12 | exact pcc_13 | exact pcc_14 | exact pcc_15 | exact pcc_22 | (rw [pcc_o (by decide)]; assumption)) (by omega) (by decide) ?_
      rw [upd_n, pcc_s15]
      first | refine z_inc2N rfl rfl (pc' := 67) 32 rfl rfl ?_ | refine z_inc2 rfl rfl rfl (pc' := 67) 32 rfl rfl ?_
      refine z_goto 33 rfl (tgt := 32) rfl ?_
      exact l_Wb_anew hob0 hi K j (k + 1) (by omega)
set_option maxHeartbeats 4000000 in
set_option maxRecDepth 100000 in
theorem c_Wb_anew {G : zG} {n u : Nat} {μ : Nat → va_E} {κ : zκ} {kp : Int32} {ac : Value} (h : cst μ κ) (hob : isOb μ kp ac) :
    zMet G 0 M_Wb_anew [.ref 4] n u μ n u (cK μ (f_anew κ)) := by
  obtain ⟨S, mo, pr, fa, sc, ch, rc, D⟩ := κ
  have hst := h
  obtain ⟨h1, ⟨cs, q, h2⟩, ⟨β, its, h3, h3a, h3b⟩, ⟨c23, h4⟩, h5⟩ := h
  have hk5 := h5
  obtain ⟨hi, hx, hmo, hrc⟩ := h5
  have hi0 := hi.1
  have hi1 := hi.2.1
  have hi2 := hi.2.2.1
  have hi3 := hi.2.2.2.2.1
  refine z_start (lv := [.ref 4, .retAddr 0, .retAddr 0]) K_Wb_anew rfl rfl (Nat.le_refl _) (Nat.le_refl _) (Nat.le_of_ble_eq_true rfl) rfl ?_
  unfold isOb at hob
  refine z_mu (pcc_id h1 h2).symm ?_
  have hob0 : isOb μ kp ac := hob
  refine z_al0 (pc' := 1) 0 rfl rfl ?_
  refine z_getf (pc' := 4) 1 rfl rfl f_Wb_10_11 (by first | exact pcc_5 | exact pcc_6 | exact pcc_7 | exact pcc_8 | exact pcc_9 | exact pcc_10 | exact pcc_11 | exact pcc_12 | exact pcc_13 | exact pcc_14 | exact pcc_15 | exact pcc_22 | (rw [pcc_o (by decide)]; assumption)) (by rfl) ?_
  refine z_getr (pc' := 7) 2 rfl rfl f_Wb_97_3 (by first | exact pcc_5 | exact pcc_6 | exact pcc_7 | exact pcc_8 | exact pcc_9 | exact pcc_10 | exact pcc_11 | exact pcc_12 | exact pcc_13 | exact pcc_14 | exact pcc_15 | exact pcc_22 | (rw [pcc_o (by decide)]; assumption)) (by rfl) ?_
  refine z_getf (pc' := 10) 3 rfl rfl f_Wb_135_4 (by first | exact pcc_5 | exact pcc_6 | exact pcc_7 | exact pcc_8 | exact pcc_9 | exact pcc_10 | exact pcc_11 | exact pcc_12 | exact pcc_13 | exact pcc_14 | exact pcc_15 | exact pcc_22 | (rw [pcc_o (by decide)]; assumption)) (by rfl) ?_
  refine z_is1 rfl rfl (pc' := 11) 4 rfl rfl ?_
  refine z_al0 (pc' := 12) 5 rfl rfl ?_
  refine z_getf (pc' := 15) 6 rfl rfl f_Wb_10_11 (by first | exact pcc_5 | exact pcc_6 | exact pcc_7 | exact pcc_8 | exact pcc_9 | exact pcc_10 | exact pcc_11 | exact pcc_12 | exact pcc_13 | exact pcc_14 | exact pcc_15 | exact pcc_22 | (rw [pcc_o (by decide)]; assumption)) (by rfl) ?_
  refine z_getr (pc' := 18) 7 rfl rfl f_Wb_97_3 (by first | exact pcc_5 | exact pcc_6 | exact pcc_7 | exact pcc_8 | exact pcc_9 | exact pcc_10 | exact pcc_11 | exact pcc_12 | exact pcc_13 | exact pcc_14 | exact pcc_15 | exact pcc_22 | (rw [pcc_o (by decide)]; assumption)) (by rfl) ?_
  refine z_iconst (v := nI 0) (by decide) (pc' := 19) 8 rfl rfl ?_
  refine z_putf (pc' := 22) 9 rfl rfl f_Wb_135_4 (by first | exact pcc_5 | exact pcc_6 | exact pcc_7 | exact pcc_8 | exact pcc_9 | exact pcc_10 | exact pcc_11 | exact pcc_12 | exact pcc_13 | exact pcc_14 | exact pcc_15 | exact pcc_22 | (rw [pcc_o (by decide)]; assumption)) rfl rfl (by rfl) (by rfl) ?_
  dsimp only [List.set]
  rw [pcc_s13]
  refine z_al0 (pc' := 23) 10 rfl rfl ?_
  refine z_getf (pc' := 26) 11 rfl rfl f_Wb_10_11 (by first | exact pcc_5 | exact pcc_6 | exact pcc_7 | exact pcc_8 | exact pcc_9 | exact pcc_10 | exact pcc_11 | exact pcc_12 | exact pcc_13 | exact pcc_14 | exact pcc_15 | exact pcc_22 | (rw [pcc_o (by decide)]; assumption)) (by rfl) ?_
  refine z_iconst (v := nI 0) (by decide) (pc' := 27) 12 rfl rfl ?_
  refine z_putf (pc' := 30) 13 rfl rfl f_Wb_152_3 (by first | exact pcc_5 | exact pcc_6 | exact pcc_7 | exact pcc_8 | exact pcc_9 | exact pcc_10 | exact pcc_11 | exact pcc_12 | exact pcc_13 | exact pcc_14 | exact pcc_15 | exact pcc_22 | (rw [pcc_o (by decide)]; assumption)) rfl rfl (by rfl) (by rfl) ?_
  dsimp only [List.set]
  rw [ob5_sc, pcc_s5 (fun _ _ => rfl)]
  refine z_iconst (v := nI 0) (by decide) (pc' := 31) 14 rfl rfl ?_
  refine z_is2 rfl rfl (pc' := 32) 15 rfl rfl ?_
  exact l_Wb_anew hob0 hi (by
    refine z_il1 (pc' := 71) 34 rfl rfl ?_
    exact z_ireturn 35 rfl rfl (by first | rfl | exact zbo_nar) rfl rfl (by show cK μ _ _ _; rw [f_anew]; exact cK_of hst rfl rfl (⟨hi, dwF_ok hi hx _ (Nat.le_refl _), Nat.zero_le _, hrc⟩))) (S 0 0) 0 (by omega)
set_option maxHeartbeats 4000000 in
set_option maxRecDepth 100000 in
theorem l_Mo_anew {G : zG} {n u : Nat} {Φ : zP} {ν : Nat → va_E} {s : Nat → Int32} {S : Nat → Nat → Nat} {mo : Nat} {pr fa : Nat → Nat} {sc ch : Int32} {rc : Nat} {ρ : Nat → Int32} (hi : iS S) {v : Int32} (K : zW G 5 M_Mo_anew 51 [.ref 88, .int v, .int (nI (S 0 0))] [] n u (pm ν s (mk S mo pr (dwF S fa (S 0 0)) sc ch rc ρ)) n u Φ) : ∀ j k, k + j = S 0 0 → zW G 5 M_Mo_anew 23 [.ref 88, .int v, .int (nI k)] [] n u (pm ν s (mk S mo pr (dwF S fa k) sc ch rc ρ)) n u Φ
  | 0, k, e => by
    have hi0 := hi.1
    obtain rfl : k = S 0 0 := by omega
    refine z_il2 (pc' := 24) 17 rfl rfl ?_
    refine z_al0 (pc' := 25) 18 rfl rfl ?_
    refine z_getf (pc' := 28) 19 rfl rfl f_Mo_9_12 (by first | exact pm_f | exact pm_1) (by rfl) ?_
    refine z_iconst (v := nI 3) (by decide) (pc' := 29) 20 rfl rfl ?_
    refine z_iald (pc' := 30) 21 rfl rfl (by first | exact pm_f | exact pm_1) (by omega) (by decide) ?_
    rw [mk_3]
    first | refine z_icmp_geN (pc' := 33) 22 rfl rfl (tgt := 51) rfl (by omega) (by omega) (fun h30 => ?_) (fun h30 => ?_) | refine z_icmp_ge (pc' := 33) 22 rfl rfl (tgt := 51) rfl (fun h30 => ?_) (fun h30 => ?_)
    · exact K
    · exfalso; omega
  | j + 1, k, e => by
    have hi0 := hi.1
    refine z_il2 (pc' := 24) 17 rfl rfl ?_
    refine z_al0 (pc' := 25) 18 rfl rfl ?_
    refine z_getf (pc' := 28) 19 rfl rfl f_Mo_9_12 (by first | exact pm_f | exact pm_1) (by rfl) ?_
    refine z_iconst (v := nI 3) (by decide) (pc' := 29) 20 rfl rfl ?_
    refine z_iald (pc' := 30) 21 rfl rfl (by first | exact pm_f | exact pm_1) (by omega) (by decide) ?_
    rw [mk_3]
    first | refine z_icmp_geN (pc' := 33) 22 rfl rfl (tgt := 51) rfl (by omega) (by omega) (fun h30 => ?_) (fun h30 => ?_) | refine z_icmp_ge (pc' := 33) 22 rfl rfl (tgt := 51) rfl (fun h30 => ?_) (fun h30 => ?_)
    · exfalso; omega
    · refine z_al0 (pc' := 34) 23 rfl rfl ?_
      refine z_il2 (pc' := 35) 24 rfl rfl ?_
      refine z_iconst (v := nI 4) (by decide) (pc' := 36) 25 rfl rfl ?_
      refine z_al0 (pc' := 37) 26 rfl rfl ?_
      refine z_il2 (pc' := 38) 27 rfl rfl ?_
      refine z_iconst (v := nI 2) (by decide) (pc' := 39) 28 rfl rfl ?_
      refine z_callV1 (pc' := 42) 29 rfl rfl k_Mo_75 (by first | exact pm_f | exact pm_1) (c_Mo_of2 (by omega)) (by decide) (Nat.le_refl _) (Nat.le_refl _) rfl rfl (Nat.le_of_ble_eq_true rfl) ?_
      refine z_callV0 (pc' := 45) 30 rfl rfl k_Mo_88 (by first | exact pm_f | exact pm_1) (c_Mo_put4 (by omega)) (by decide) (Nat.le_refl _) (Nat.le_refl _) rfl rfl (Nat.le_of_ble_eq_true rfl) ?_
      first | refine z_inc2N rfl rfl (pc' := 48) 31 rfl rfl ?_ | refine z_inc2 rfl rfl rfl (pc' := 48) 31 rfl rfl ?_
      refine z_goto 32 rfl (tgt := 23) rfl ?_
      exact l_Mo_anew hi K j (k + 1) (by omega)
set_option maxHeartbeats 4000000 in
set_option maxRecDepth 100000 in
theorem c_Mo_anew {G : zG} {n u : Nat} {μ : Nat → va_E} {κ : zκ} {s : Nat → Int32} (h : mst μ s κ) :
    zMet G 5 M_Mo_anew [.ref 88] n u μ n u (mK μ s (f_anew κ)) := by
  obtain ⟨S, mo, pr, fa, sc, ch, rc, D⟩ := κ
  have hst := h
  obtain ⟨⟨ρ, h1, hD⟩, h2, ⟨q93, h93⟩, ⟨q91, h91⟩, ⟨q94, h94⟩, ⟨q95, h95⟩, ⟨q96, h96⟩, ⟨q97, h97⟩, h5⟩ := h
  have hk5 := h5
  obtain ⟨hi, hx, hmo, hrc⟩ := h5
  have hi0 := hi.1
  have hi1 := hi.2.1
  have hi2 := hi.2.2.1
  have hi3 := hi.2.2.2.2.1
  have hm16 : mo ≤ 16 := by omega
  refine z_start (lv := [.ref 88, .retAddr 0, .retAddr 0]) K_Mo_anew rfl rfl (Nat.le_refl _) (Nat.le_refl _) (Nat.le_of_ble_eq_true rfl) rfl ?_
  refine z_mu (show μ = pm (zu (zu μ 91 (.inl (0, 618, .inl q91))) 93 (.inl (1, 100, .inl q93))) s (mk S mo pr fa sc ch rc ρ) by rw [zu_id h91, zu_id h93, pm_id h2 h1]) ?_
  refine z_al0 (pc' := 1) 0 rfl rfl ?_
  refine z_getf (pc' := 4) 1 rfl rfl f_Mo_9_12 (by first | exact pm_f | exact pm_1 | (rw [pm_o (by decide)]; first | exact zu_s | (rw [zu_n (by decide)]; first | exact zu_s | (rw [zu_n (by decide)]; assumption)))) (by rfl) ?_
  refine z_iconst (v := nI 1) (by decide) (pc' := 5) 2 rfl rfl ?_
  refine z_iald (pc' := 6) 3 rfl rfl (by first | exact pm_f | exact pm_1 | (rw [pm_o (by decide)]; first | exact zu_s | (rw [zu_n (by decide)]; first | exact zu_s | (rw [zu_n (by decide)]; assumption)))) (by omega) (by decide) ?_
  rw [mk_1]
  refine z_is1 rfl rfl (pc' := 7) 4 rfl rfl ?_
  refine z_al0 (pc' := 8) 5 rfl rfl ?_
  refine z_getf (pc' := 11) 6 rfl rfl f_Mo_9_12 (by first | exact pm_f | exact pm_1 | (rw [pm_o (by decide)]; first | exact zu_s | (rw [zu_n (by decide)]; first | exact zu_s | (rw [zu_n (by decide)]; assumption)))) (by rfl) ?_
  refine z_iconst (v := nI 1) (by decide) (pc' := 12) 7 rfl rfl ?_
  refine z_iconst (v := nI 0) (by decide) (pc' := 13) 8 rfl rfl ?_
  refine z_iast (pc' := 14) 9 rfl rfl (by first | exact pm_f | exact pm_1 | (rw [pm_o (by decide)]; first | exact zu_s | (rw [zu_n (by decide)]; first | exact zu_s | (rw [zu_n (by decide)]; assumption)))) (by omega) (by decide) ?_
  rw [mk_u_mo, pm_s1]
  refine z_al0 (pc' := 15) 10 rfl rfl ?_
  refine z_getf (pc' := 18) 11 rfl rfl f_Mo_9_12 (by first | exact pm_f | exact pm_1 | (rw [pm_o (by decide)]; first | exact zu_s | (rw [zu_n (by decide)]; first | exact zu_s | (rw [zu_n (by decide)]; assumption)))) (by rfl) ?_
  refine z_iconst (v := nI 4) (by decide) (pc' := 19) 12 rfl rfl ?_
  refine z_iconst (v := nI 0) (by decide) (pc' := 20) 13 rfl rfl ?_
  refine z_iast (pc' := 21) 14 rfl rfl (by first | exact pm_f | exact pm_1 | (rw [pm_o (by decide)]; first | exact zu_s | (rw [zu_n (by decide)]; first | exact zu_s | (rw [zu_n (by decide)]; assumption)))) (by omega) (by decide) ?_
  rw [mk_u_sc, pm_s1]
  refine z_iconst (v := nI 0) (by decide) (pc' := 22) 15 rfl rfl ?_
  refine z_is2 rfl rfl (pc' := 23) 16 rfl rfl ?_
  exact l_Mo_anew hi (by
    refine z_il1 (pc' := 52) 33 rfl rfl ?_
    exact z_ireturn 34 rfl rfl (by first | rfl | exact zbo_nar) rfl rfl (by show mK μ s _ _ _; rw [f_anew]; exact mK_of3 hst (sEq_r) hD (⟨hi, dwF_ok hi hx _ (Nat.le_refl _), Nat.zero_le _, hrc⟩))) (S 0 0) 0 (by omega)
