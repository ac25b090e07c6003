/-! ===== act, trace, many: the class ===== -/
def ciK (k : Nat) : Nat := match k with | 1 => 8 | 2 => 1 | 3 => 10 | 4 => 6 | 5 => 2 | _ => 5
def obN (ci : Nat) (x y : Int32) : va_E := .inr (ci, [.int x, .int y, .ref 87, .int 0, .int 0])
def acR (S : Nat → Nat → Nat) (σ : zσ) (tr : Nat → Int32) (x y v : Int32) : Int32 × zAc := acK (tN y) (S 1 (tN (σ (tN x)).2.1)) (tN (σ (tN x)).2.1) (S 3 (tN (σ (tN x)).2.1)) v (0, false, tr)
def acC (S : Nat → Nat → Nat) (σ : zσ) (x y : Int32) : Prop := (nI 0 ≤ x ∧ x ≤ nI 3) ∧ (nI 0 ≤ y ∧ y ≤ nI 3) ∧ hld S σ (tN x) = 0
def acA (r : Int32 × zAc) : Int32 := if r.2.2.1 = true then -15 else r.1
/-- the thing of the latest act -/
def isAc (μ : Nat → va_E) (ac : Value) (tc : Nat) : Prop := (ac = .null ∧ tc = 0) ∨ ∃ (a ci : Nat) (x y q : Int32), ac = .ref a ∧ (ci = 5 ∨ ci = 8 ∨ ci = 1 ∨ ci = 10 ∨ ci = 6 ∨ ci = 2) ∧ 106 ≤ a ∧ μ a = .inr (ci, [.int x, .int y, .ref 87, .int (nI tc), .int q])
def f_trace (tc : Nat) (tr : Nat → Int32) (x : Int32) : Int32 := if 0 ≤ x ∧ x < nI tc then tr (tN x) else -3
def f_many : zκ → Nat → Nat → Nat → Int32 → Int32
  | (S, _, pr, _, _, _, rc, _), R, ln, tc, x => if x = nI 0 then nI (S 0 0) else if x = nI 1 then nI rc else if x = nI 2 then nI (S 0 1) else if x = nI 3 then nI (S 0 2) else if x = nI 4 then nI R else if x = nI 5 then nI ln else if x = nI 6 then nI tc else if x = nI 7 then nI (pcn (psN pr (S 0 0))) else -1
set_option maxHeartbeats 4000000 in
set_option maxRecDepth 100000 in
theorem c_Gi_init_5 {G : zG} {n u : Nat} {μ : Nat → va_E} {a : Nat} {x y : Int32} : zMet G 1 M_Gi_init [.ref a, .int x, .int y, .ref 87] n u (zu μ a (.inr (5, [.int 0, .int 0, .null, .int 0, .int 0]))) n u (zE none (zu μ a (obN 5 x y))) := by
  refine z_start (lv := [.ref a, .int x, .int y, .ref 87]) K_Gi_init rfl rfl (Nat.le_refl _) (Nat.le_refl _) (Nat.le_of_ble_eq_true rfl) rfl ?_
  refine z_al0 (pc' := 1) 0 rfl rfl ?_
  refine z_objInit (pc' := 4) 1 rfl rfl (by decide) ko_Gi_1 ko_ins ko_cod (Nat.le_of_ble_eq_true rfl) ?_
  refine z_al0 (pc' := 5) 2 rfl rfl ?_
  refine z_il1 (pc' := 6) 3 rfl rfl ?_
  refine z_putF (pc' := 9) 4 rfl rfl rfl f_Gi_7_5 (by exact zu_s) rfl rfl (by rfl) (by rfl) ?_
  dsimp only [List.set]
  rw [zu_zu]
  refine z_al0 (pc' := 10) 5 rfl rfl ?_
  refine z_il2 (pc' := 11) 6 rfl rfl ?_
  refine z_putF (pc' := 14) 7 rfl rfl rfl f_Gi_13_5 (by exact zu_s) rfl rfl (by rfl) (by rfl) ?_
  dsimp only [List.set]
  rw [zu_zu]
  refine z_al0 (pc' := 15) 8 rfl rfl ?_
  refine z_al3 (pc' := 16) 9 rfl rfl ?_
  refine z_putF (pc' := 19) 10 rfl rfl rfl f_Gi_16_5 (by exact zu_s) rfl rfl (by rfl) (by rfl) ?_
  dsimp only [List.set]
  rw [zu_zu]
  exact z_return 11 rfl rfl rfl rfl (by exact ⟨rfl, rfl⟩)
set_option maxHeartbeats 4000000 in
set_option maxRecDepth 100000 in
theorem c_Gi_init_8 {G : zG} {n u : Nat} {μ : Nat → va_E} {a : Nat} {x y : Int32} : zMet G 1 M_Gi_init [.ref a, .int x, .int y, .ref 87] n u (zu μ a (.inr (8, [.int 0, .int 0, .null, .int 0, .int 0]))) n u (zE none (zu μ a (obN 8 x y))) := by
  refine z_start (lv := [.ref a, .int x, .int y, .ref 87]) K_Gi_init rfl rfl (Nat.le_refl _) (Nat.le_refl _) (Nat.le_of_ble_eq_true rfl) rfl ?_
  refine z_al0 (pc' := 1) 0 rfl rfl ?_
  refine z_objInit (pc' := 4) 1 rfl rfl (by decide) ko_Gi_1 ko_ins ko_cod (Nat.le_of_ble_eq_true rfl) ?_
  refine z_al0 (pc' := 5) 2 rfl rfl ?_
  refine z_il1 (pc' := 6) 3 rfl rfl ?_
  refine z_putF (pc' := 9) 4 rfl rfl rfl f_Gi_7_8 (by exact zu_s) rfl rfl (by rfl) (by rfl) ?_
  dsimp only [List.set]
  rw [zu_zu]
  refine z_al0 (pc' := 10) 5 rfl rfl ?_
  refine z_il2 (pc' := 11) 6 rfl rfl ?_
  refine z_putF (pc' := 14) 7 rfl rfl rfl f_Gi_13_8 (by exact zu_s) rfl rfl (by rfl) (by rfl) ?_
  dsimp only [List.set]
  rw [zu_zu]
  refine z_al0 (pc' := 15) 8 rfl rfl ?_
  refine z_al3 (pc' := 16) 9 rfl rfl ?_
  refine z_putF (pc' := 19) 10 rfl rfl rfl f_Gi_16_8 (by exact zu_s) rfl rfl (by rfl) (by rfl) ?_
  dsimp only [List.set]
  rw [zu_zu]
  exact z_return 11 rfl rfl rfl rfl (by exact ⟨rfl, rfl⟩)
set_option maxHeartbeats 4000000 in
set_option maxRecDepth 100000 in
theorem c_Gi_init_1 {G : zG} {n u : Nat} {μ : Nat → va_E} {a : Nat} {x y : Int32} : zMet G 1 M_Gi_init [.ref a, .int x, .int y, .ref 87] n u (zu μ a (.inr (1, [.int 0, .int 0, .null, .int 0, .int 0]))) n u (zE none (zu μ a (obN 1 x y))) := by
  refine z_start (lv := [.ref a, .int x, .int y, .ref 87]) K_Gi_init rfl rfl (Nat.le_refl _) (Nat.le_refl _) (Nat.le_of_ble_eq_true rfl) rfl ?_
  refine z_al0 (pc' := 1) 0 rfl rfl ?_
  refine z_objInit (pc' := 4) 1 rfl rfl (by decide) ko_Gi_1 ko_ins ko_cod (Nat.le_of_ble_eq_true rfl) ?_
  refine z_al0 (pc' := 5) 2 rfl rfl ?_
  refine z_il1 (pc' := 6) 3 rfl rfl ?_
  refine z_putF (pc' := 9) 4 rfl rfl rfl f_Gi_7_1 (by exact zu_s) rfl rfl (by rfl) (by rfl) ?_
  dsimp only [List.set]
  rw [zu_zu]
  refine z_al0 (pc' := 10) 5 rfl rfl ?_
  refine z_il2 (pc' := 11) 6 rfl rfl ?_
  refine z_putF (pc' := 14) 7 rfl rfl rfl f_Gi_13_1 (by exact zu_s) rfl rfl (by rfl) (by rfl) ?_
  dsimp only [List.set]
  rw [zu_zu]
  refine z_al0 (pc' := 15) 8 rfl rfl ?_
  refine z_al3 (pc' := 16) 9 rfl rfl ?_
  refine z_putF (pc' := 19) 10 rfl rfl rfl f_Gi_16_1 (by exact zu_s) rfl rfl (by rfl) (by rfl) ?_
  dsimp only [List.set]
  rw [zu_zu]
  exact z_return 11 rfl rfl rfl rfl (by exact ⟨rfl, rfl⟩)
set_option maxHeartbeats 4000000 in
set_option maxRecDepth 100000 in
theorem c_Gi_init_10 {G : zG} {n u : Nat} {μ : Nat → va_E} {a : Nat} {x y : Int32} : zMet G 1 M_Gi_init [.ref a, .int x, .int y, .ref 87] n u (zu μ a (.inr (10, [.int 0, .int 0, .null, .int 0, .int 0]))) n u (zE none (zu μ a (obN 10 x y))) := by
  refine z_start (lv := [.ref a, .int x, .int y, .ref 87]) K_Gi_init rfl rfl (Nat.le_refl _) (Nat.le_refl _) (Nat.le_of_ble_eq_true rfl) rfl ?_
  refine z_al0 (pc' := 1) 0 rfl rfl ?_
  refine z_objInit (pc' := 4) 1 rfl rfl (by decide) ko_Gi_1 ko_ins ko_cod (Nat.le_of_ble_eq_true rfl) ?_
  refine z_al0 (pc' := 5) 2 rfl rfl ?_
  refine z_il1 (pc' := 6) 3 rfl rfl ?_
  refine z_putF (pc' := 9) 4 rfl rfl rfl f_Gi_7_10 (by exact zu_s) rfl rfl (by rfl) (by rfl) ?_
  dsimp only [List.set]
  rw [zu_zu]
  refine z_al0 (pc' := 10) 5 rfl rfl ?_
  refine z_il2 (pc' := 11) 6 rfl rfl ?_
  refine z_putF (pc' := 14) 7 rfl rfl rfl f_Gi_13_10 (by exact zu_s) rfl rfl (by rfl) (by rfl) ?_
  dsimp only [List.set]
  rw [zu_zu]
  refine z_al0 (pc' := 15) 8 rfl rfl ?_
  refine z_al3 (pc' := 16) 9 rfl rfl ?_
  refine z_putF (pc' := 19) 10 rfl rfl rfl f_Gi_16_10 (by exact zu_s) rfl rfl (by rfl) (by rfl) ?_
  dsimp only [List.set]
  rw [zu_zu]
  exact z_return 11 rfl rfl rfl rfl (by exact ⟨rfl, rfl⟩)
set_option maxHeartbeats 4000000 in
set_option maxRecDepth 100000 in
theorem c_Gi_init_6 {G : zG} {n u : Nat} {μ : Nat → va_E} {a : Nat} {x y : Int32} : zMet G 1 M_Gi_init [.ref a, .int x, .int y, .ref 87] n u (zu μ a (.inr (6, [.int 0, .int 0, .null, .int 0, .int 0]))) n u (zE none (zu μ a (obN 6 x y))) := by
  refine z_start (lv := [.ref a, .int x, .int y, .ref 87]) K_Gi_init rfl rfl (Nat.le_refl _) (Nat.le_refl _) (Nat.le_of_ble_eq_true rfl) rfl ?_
  refine z_al0 (pc' := 1) 0 rfl rfl ?_
  refine z_objInit (pc' := 4) 1 rfl rfl (by decide) ko_Gi_1 ko_ins ko_cod (Nat.le_of_ble_eq_true rfl) ?_
  refine z_al0 (pc' := 5) 2 rfl rfl ?_
  refine z_il1 (pc' := 6) 3 rfl rfl ?_
  refine z_putF (pc' := 9) 4 rfl rfl rfl f_Gi_7_6 (by exact zu_s) rfl rfl (by rfl) (by rfl) ?_
  dsimp only [List.set]
  rw [zu_zu]
  refine z_al0 (pc' := 10) 5 rfl rfl ?_
  refine z_il2 (pc' := 11) 6 rfl rfl ?_
  refine z_putF (pc' := 14) 7 rfl rfl rfl f_Gi_13_6 (by exact zu_s) rfl rfl (by rfl) (by rfl) ?_
  dsimp only [List.set]
  rw [zu_zu]
  refine z_al0 (pc' := 15) 8 rfl rfl ?_
  refine z_al3 (pc' := 16) 9 rfl rfl ?_
  refine z_putF (pc' := 19) 10 rfl rfl rfl f_Gi_16_6 (by exact zu_s) rfl rfl (by rfl) (by rfl) ?_
  dsimp only [List.set]
  rw [zu_zu]
  exact z_return 11 rfl rfl rfl rfl (by exact ⟨rfl, rfl⟩)
set_option maxHeartbeats 4000000 in
set_option maxRecDepth 100000 in
theorem c_Gi_init_2 {G : zG} {n u : Nat} {μ : Nat → va_E} {a : Nat} {x y : Int32} : zMet G 1 M_Gi_init [.ref a, .int x, .int y, .ref 87] n u (zu μ a (.inr (2, [.int 0, .int 0, .null, .int 0, .int 0]))) n u (zE none (zu μ a (obN 2 x y))) := by
  refine z_start (lv := [.ref a, .int x, .int y, .ref 87]) K_Gi_init rfl rfl (Nat.le_refl _) (Nat.le_refl _) (Nat.le_of_ble_eq_true rfl) rfl ?_
  refine z_al0 (pc' := 1) 0 rfl rfl ?_
  refine z_objInit (pc' := 4) 1 rfl rfl (by decide) ko_Gi_1 ko_ins ko_cod (Nat.le_of_ble_eq_true rfl) ?_
  refine z_al0 (pc' := 5) 2 rfl rfl ?_
  refine z_il1 (pc' := 6) 3 rfl rfl ?_
  refine z_putF (pc' := 9) 4 rfl rfl rfl f_Gi_7_2 (by exact zu_s) rfl rfl (by rfl) (by rfl) ?_
  dsimp only [List.set]
  rw [zu_zu]
  refine z_al0 (pc' := 10) 5 rfl rfl ?_
  refine z_il2 (pc' := 11) 6 rfl rfl ?_
  refine z_putF (pc' := 14) 7 rfl rfl rfl f_Gi_13_2 (by exact zu_s) rfl rfl (by rfl) (by rfl) ?_
  dsimp only [List.set]
  rw [zu_zu]
  refine z_al0 (pc' := 15) 8 rfl rfl ?_
  refine z_al3 (pc' := 16) 9 rfl rfl ?_
  refine z_putF (pc' := 19) 10 rfl rfl rfl f_Gi_16_2 (by exact zu_s) rfl rfl (by rfl) (by rfl) ?_
  dsimp only [List.set]
  rw [zu_zu]
  exact z_return 11 rfl rfl rfl rfl (by exact ⟨rfl, rfl⟩)
set_option maxHeartbeats 4000000 in
set_option maxRecDepth 100000 in
theorem c_Sh_init_8 {G : zG} {n u : Nat} {μ : Nat → va_E} {a : Nat} {x y : Int32} : zMet G 2 M_Sh_init [.ref a, .int x, .int y, .ref 87] n u (zu μ a (.inr (8, [.int 0, .int 0, .null, .int 0, .int 0]))) n u (zE none (zu μ a (obN 8 x y))) := by
  refine z_start (lv := [.ref a, .int x, .int y, .ref 87]) K_Sh_init rfl rfl (Nat.le_refl _) (Nat.le_refl _) (Nat.le_of_ble_eq_true rfl) rfl ?_
  refine z_al0 (pc' := 1) 0 rfl rfl ?_
  refine z_il1 (pc' := 2) 1 rfl rfl ?_
  refine z_il2 (pc' := 3) 2 rfl rfl ?_
  refine z_al3 (pc' := 4) 3 rfl rfl ?_
  refine z_callI0 (pc' := 7) 4 rfl rfl k_Sh_1 (c_Gi_init_8) (by decide) (Nat.le_refl _) (Nat.le_refl _) rfl rfl (Nat.le_of_ble_eq_true rfl) ?_
  exact z_return 5 rfl rfl rfl rfl (by exact ⟨rfl, rfl⟩)
set_option maxHeartbeats 4000000 in
set_option maxRecDepth 100000 in
theorem c_Br_init_1 {G : zG} {n u : Nat} {μ : Nat → va_E} {a : Nat} {x y : Int32} : zMet G 2 M_Br_init [.ref a, .int x, .int y, .ref 87] n u (zu μ a (.inr (1, [.int 0, .int 0, .null, .int 0, .int 0]))) n u (zE none (zu μ a (obN 1 x y))) := by
  refine z_start (lv := [.ref a, .int x, .int y, .ref 87]) K_Br_init rfl rfl (Nat.le_refl _) (Nat.le_refl _) (Nat.le_of_ble_eq_true rfl) rfl ?_
  refine z_al0 (pc' := 1) 0 rfl rfl ?_
  refine z_il1 (pc' := 2) 1 rfl rfl ?_
  refine z_il2 (pc' := 3) 2 rfl rfl ?_
  refine z_al3 (pc' := 4) 3 rfl rfl ?_
  refine z_callI0 (pc' := 7) 4 rfl rfl k_Br_1 (c_Gi_init_1) (by decide) (Nat.le_refl _) (Nat.le_refl _) rfl rfl (Nat.le_of_ble_eq_true rfl) ?_
  exact z_return 5 rfl rfl rfl rfl (by exact ⟨rfl, rfl⟩)
set_option maxHeartbeats 4000000 in
set_option maxRecDepth 100000 in
theorem c_Br_init_10 {G : zG} {n u : Nat} {μ : Nat → va_E} {a : Nat} {x y : Int32} : zMet G 2 M_Br_init [.ref a, .int x, .int y, .ref 87] n u (zu μ a (.inr (10, [.int 0, .int 0, .null, .int 0, .int 0]))) n u (zE none (zu μ a (obN 10 x y))) := by
  refine z_start (lv := [.ref a, .int x, .int y, .ref 87]) K_Br_init rfl rfl (Nat.le_refl _) (Nat.le_refl _) (Nat.le_of_ble_eq_true rfl) rfl ?_
  refine z_al0 (pc' := 1) 0 rfl rfl ?_
  refine z_il1 (pc' := 2) 1 rfl rfl ?_
  refine z_il2 (pc' := 3) 2 rfl rfl ?_
  refine z_al3 (pc' := 4) 3 rfl rfl ?_
  refine z_callI0 (pc' := 7) 4 rfl rfl k_Br_1 (c_Gi_init_10) (by decide) (Nat.le_refl _) (Nat.le_refl _) rfl rfl (Nat.le_of_ble_eq_true rfl) ?_
  exact z_return 5 rfl rfl rfl rfl (by exact ⟨rfl, rfl⟩)
set_option maxHeartbeats 4000000 in
set_option maxRecDepth 100000 in
theorem c_Tw_init_10 {G : zG} {n u : Nat} {μ : Nat → va_E} {a : Nat} {x y : Int32} : zMet G 3 M_Tw_init [.ref a, .int x, .int y, .ref 87] n u (zu μ a (.inr (10, [.int 0, .int 0, .null, .int 0, .int 0]))) n u (zE none (zu μ a (obN 10 x y))) := by
  refine z_start (lv := [.ref a, .int x, .int y, .ref 87]) K_Tw_init rfl rfl (Nat.le_refl _) (Nat.le_refl _) (Nat.le_of_ble_eq_true rfl) rfl ?_
  refine z_al0 (pc' := 1) 0 rfl rfl ?_
  refine z_il1 (pc' := 2) 1 rfl rfl ?_
  refine z_il2 (pc' := 3) 2 rfl rfl ?_
  refine z_al3 (pc' := 4) 3 rfl rfl ?_
  refine z_callI0 (pc' := 7) 4 rfl rfl k_Tw_1 (c_Br_init_10) (by decide) (Nat.le_refl _) (Nat.le_refl _) rfl rfl (Nat.le_of_ble_eq_true rfl) ?_
  exact z_return 5 rfl rfl rfl rfl (by exact ⟨rfl, rfl⟩)
set_option maxHeartbeats 4000000 in
set_option maxRecDepth 100000 in
theorem c_La_init_6 {G : zG} {n u : Nat} {μ : Nat → va_E} {a : Nat} {x y : Int32} : zMet G 2 M_La_init [.ref a, .int x, .int y, .ref 87] n u (zu μ a (.inr (6, [.int 0, .int 0, .null, .int 0, .int 0]))) n u (zE none (zu μ a (obN 6 x y))) := by
  refine z_start (lv := [.ref a, .int x, .int y, .ref 87]) K_La_init rfl rfl (Nat.le_refl _) (Nat.le_refl _) (Nat.le_of_ble_eq_true rfl) rfl ?_
  refine z_al0 (pc' := 1) 0 rfl rfl ?_
  refine z_il1 (pc' := 2) 1 rfl rfl ?_
  refine z_il2 (pc' := 3) 2 rfl rfl ?_
  refine z_al3 (pc' := 4) 3 rfl rfl ?_
  refine z_callI0 (pc' := 7) 4 rfl rfl k_La_1 (c_Gi_init_6) (by decide) (Nat.le_refl _) (Nat.le_refl _) rfl rfl (Nat.le_of_ble_eq_true rfl) ?_
  exact z_return 5 rfl rfl rfl rfl (by exact ⟨rfl, rfl⟩)
set_option maxHeartbeats 4000000 in
set_option maxRecDepth 100000 in
theorem c_La_init_2 {G : zG} {n u : Nat} {μ : Nat → va_E} {a : Nat} {x y : Int32} : zMet G 2 M_La_init [.ref a, .int x, .int y, .ref 87] n u (zu μ a (.inr (2, [.int 0, .int 0, .null, .int 0, .int 0]))) n u (zE none (zu μ a (obN 2 x y))) := by
  refine z_start (lv := [.ref a, .int x, .int y, .ref 87]) K_La_init rfl rfl (Nat.le_refl _) (Nat.le_refl _) (Nat.le_of_ble_eq_true rfl) rfl ?_
  refine z_al0 (pc' := 1) 0 rfl rfl ?_
  refine z_il1 (pc' := 2) 1 rfl rfl ?_
  refine z_il2 (pc' := 3) 2 rfl rfl ?_
  refine z_al3 (pc' := 4) 3 rfl rfl ?_
  refine z_callI0 (pc' := 7) 4 rfl rfl k_La_1 (c_Gi_init_2) (by decide) (Nat.le_refl _) (Nat.le_refl _) rfl rfl (Nat.le_of_ble_eq_true rfl) ?_
  exact z_return 5 rfl rfl rfl rfl (by exact ⟨rfl, rfl⟩)
set_option maxHeartbeats 4000000 in
set_option maxRecDepth 100000 in
theorem c_Ca_init_2 {G : zG} {n u : Nat} {μ : Nat → va_E} {a : Nat} {x y : Int32} : zMet G 3 M_Ca_init [.ref a, .int x, .int y, .ref 87] n u (zu μ a (.inr (2, [.int 0, .int 0, .null, .int 0, .int 0]))) n u (zE none (zu μ a (obN 2 x y))) := by
  refine z_start (lv := [.ref a, .int x, .int y, .ref 87]) K_Ca_init rfl rfl (Nat.le_refl _) (Nat.le_refl _) (Nat.le_of_ble_eq_true rfl) rfl ?_
  refine z_al0 (pc' := 1) 0 rfl rfl ?_
  refine z_il1 (pc' := 2) 1 rfl rfl ?_
  refine z_il2 (pc' := 3) 2 rfl rfl ?_
  refine z_al3 (pc' := 4) 3 rfl rfl ?_
  refine z_callI0 (pc' := 7) 4 rfl rfl k_Ca_1 (c_La_init_2) (by decide) (Nat.le_refl _) (Nat.le_refl _) rfl rfl (Nat.le_of_ble_eq_true rfl) ?_
  exact z_return 5 rfl rfl rfl rfl (by exact ⟨rfl, rfl⟩)
set_option maxHeartbeats 4000000 in
set_option maxRecDepth 100000 in
theorem c_Wb_thingOf {G : zG} {n u : Nat} {μ : Nat → va_E} {S : Nat → Nat → Nat} {sc ch : Int32} {kp : Int32} {ac : Value} (hco : isCo μ S sc ch) (hi : iS S) (hob : isOb μ kp ac) (hn : 106 ≤ n) {g : Nat} (hg : g < 6) : zMet G 4 M_Wb_thingOf [.ref 4, .int (nI g)] n u μ (n + 1) (u + 5) (zE (some (.ref n)) (zu μ n (obN (ciK (S 1 g)) (nI g) (nI (S 3 g))))) := by
  have hk := (hi.2.2.2.2.2 g).1
  obtain ⟨h5, h6, h7, h8, h9⟩ := hco
  unfold isOb at hob
  refine z_start (lv := [.ref 4, .int (nI g), .retAddr 0]) K_Wb_thingOf rfl rfl (by omega) (by omega) (Nat.le_of_ble_eq_true rfl) rfl ?_
  refine z_al0 (pc' := 1) 0 rfl rfl ?_
  refine z_getf (pc' := 4) 1 rfl rfl f_Wb_10_11 (by first | assumption | (rw [zu_n (by omega)]; assumption)) (by rfl) ?_
  refine z_getr (pc' := 7) 2 rfl rfl f_Wb_94_3 (by first | assumption | (rw [zu_n (by omega)]; assumption)) (by rfl) ?_
  refine z_il1 (pc' := 8) 3 rfl rfl ?_
  refine z_iald (pc' := 9) 4 rfl rfl (by first | assumption | (rw [zu_n (by omega)]; assumption)) (by omega) (by decide) ?_
  refine z_is2 rfl rfl (pc' := 10) 5 rfl rfl ?_
  refine z_al0 (pc' := 11) 6 rfl rfl ?_
  refine z_getf (pc' := 14) 7 rfl rfl f_Wb_10_11 (by first | assumption | (rw [zu_n (by omega)]; assumption)) (by rfl) ?_
  refine z_getr (pc' := 17) 8 rfl rfl f_Wb_88_3 (by first | assumption | (rw [zu_n (by omega)]; assumption)) (by rfl) ?_
  refine z_il1 (pc' := 18) 9 rfl rfl ?_
  refine z_iald (pc' := 19) 10 rfl rfl (by first | assumption | (rw [zu_n (by omega)]; assumption)) (by omega) (by decide) ?_
  first | refine z_swN (by omega) 1 (by decide) (fun h19_1 => ?_) (fun h19_1 => ?_) | refine z_sw 1 (fun h19_1 => ?_) (fun h19_1 => ?_)
  · refine z_tableIn 11 rfl (by decide) (by decide) (off := 33) rfl (tgt := 52) rfl ?_
    refine z_new (pc' := 55) 12 rfl rfl w_Wb_327 (by omega) (by omega) ?_
    refine z_dup rfl (pc' := 56) 13 rfl rfl ?_
    refine z_il1 (pc' := 57) 14 rfl rfl ?_
    refine z_il2 (pc' := 58) 15 rfl rfl ?_
    refine z_al0 (pc' := 59) 16 rfl rfl ?_
    refine z_getf (pc' := 62) 17 rfl rfl f_Wb_66_11 (by first | assumption | (rw [zu_n (by omega)]; assumption)) (by rfl) ?_
    refine z_callI0 (pc' := 65) 18 rfl rfl k_Wb_329 (c_Sh_init_8) (by decide) (by omega) (by omega) rfl rfl (Nat.le_of_ble_eq_true rfl) ?_
    exact z_areturn 19 rfl rfl rfl rfl (by exact ⟨rfl, by rw [show ciK (S 1 g) = 8 by rw [h19_1]; rfl]⟩)
  first | refine z_swN (by omega) 2 (by decide) (fun h19_2 => ?_) (fun h19_2 => ?_) | refine z_sw 2 (fun h19_2 => ?_) (fun h19_2 => ?_)
  · refine z_tableIn 11 rfl (by decide) (by decide) (off := 47) rfl (tgt := 66) rfl ?_
    refine z_new (pc' := 69) 20 rfl rfl w_Wb_332 (by omega) (by omega) ?_
    refine z_dup rfl (pc' := 70) 21 rfl rfl ?_
    refine z_il1 (pc' := 71) 22 rfl rfl ?_
    refine z_il2 (pc' := 72) 23 rfl rfl ?_
    refine z_al0 (pc' := 73) 24 rfl rfl ?_
    refine z_getf (pc' := 76) 25 rfl rfl f_Wb_66_11 (by first | assumption | (rw [zu_n (by omega)]; assumption)) (by rfl) ?_
    refine z_callI0 (pc' := 79) 26 rfl rfl k_Wb_334 (c_Br_init_1) (by decide) (by omega) (by omega) rfl rfl (Nat.le_of_ble_eq_true rfl) ?_
    exact z_areturn 27 rfl rfl rfl rfl (by exact ⟨rfl, by rw [show ciK (S 1 g) = 1 by rw [h19_2]; rfl]⟩)
  first | refine z_swN (by omega) 3 (by decide) (fun h19_3 => ?_) (fun h19_3 => ?_) | refine z_sw 3 (fun h19_3 => ?_) (fun h19_3 => ?_)
  · refine z_tableIn 11 rfl (by decide) (by decide) (off := 61) rfl (tgt := 80) rfl ?_
    refine z_new (pc' := 83) 28 rfl rfl w_Wb_335 (by omega) (by omega) ?_
    refine z_dup rfl (pc' := 84) 29 rfl rfl ?_
    refine z_il1 (pc' := 85) 30 rfl rfl ?_
    refine z_il2 (pc' := 86) 31 rfl rfl ?_
    refine z_al0 (pc' := 87) 32 rfl rfl ?_
    refine z_getf (pc' := 90) 33 rfl rfl f_Wb_66_11 (by first | assumption | (rw [zu_n (by omega)]; assumption)) (by rfl) ?_
    refine z_callI0 (pc' := 93) 34 rfl rfl k_Wb_337 (c_Tw_init_10) (by decide) (by omega) (by omega) rfl rfl (Nat.le_of_ble_eq_true rfl) ?_
    exact z_areturn 35 rfl rfl rfl rfl (by exact ⟨rfl, by rw [show ciK (S 1 g) = 10 by rw [h19_3]; rfl]⟩)
  first | refine z_swN (by omega) 4 (by decide) (fun h19_4 => ?_) (fun h19_4 => ?_) | refine z_sw 4 (fun h19_4 => ?_) (fun h19_4 => ?_)
  · refine z_tableIn 11 rfl (by decide) (by decide) (off := 75) rfl (tgt := 94) rfl ?_
    refine z_new (pc' := 97) 36 rfl rfl w_Wb_338 (by omega) (by omega) ?_
    refine z_dup rfl (pc' := 98) 37 rfl rfl ?_
    refine z_il1 (pc' := 99) 38 rfl rfl ?_
    refine z_il2 (pc' := 100) 39 rfl rfl ?_
    refine z_al0 (pc' := 101) 40 rfl rfl ?_
    refine z_getf (pc' := 104) 41 rfl rfl f_Wb_66_11 (by first | assumption | (rw [zu_n (by omega)]; assumption)) (by rfl) ?_
    refine z_callI0 (pc' := 107) 42 rfl rfl k_Wb_340 (c_La_init_6) (by decide) (by omega) (by omega) rfl rfl (Nat.le_of_ble_eq_true rfl) ?_
    exact z_areturn 43 rfl rfl rfl rfl (by exact ⟨rfl, by rw [show ciK (S 1 g) = 6 by rw [h19_4]; rfl]⟩)
  first | refine z_swN (by omega) 5 (by decide) (fun h19_5 => ?_) (fun h19_5 => ?_) | refine z_sw 5 (fun h19_5 => ?_) (fun h19_5 => ?_)
  · refine z_tableIn 11 rfl (by decide) (by decide) (off := 89) rfl (tgt := 108) rfl ?_
    refine z_new (pc' := 111) 44 rfl rfl w_Wb_341 (by omega) (by omega) ?_
    refine z_dup rfl (pc' := 112) 45 rfl rfl ?_
    refine z_il1 (pc' := 113) 46 rfl rfl ?_
    refine z_il2 (pc' := 114) 47 rfl rfl ?_
    refine z_al0 (pc' := 115) 48 rfl rfl ?_
    refine z_getf (pc' := 118) 49 rfl rfl f_Wb_66_11 (by first | assumption | (rw [zu_n (by omega)]; assumption)) (by rfl) ?_
    refine z_callI0 (pc' := 121) 50 rfl rfl k_Wb_343 (c_Ca_init_2) (by decide) (by omega) (by omega) rfl rfl (Nat.le_of_ble_eq_true rfl) ?_
    exact z_areturn 51 rfl rfl rfl rfl (by exact ⟨rfl, by rw [show ciK (S 1 g) = 2 by rw [h19_5]; rfl]⟩)
  refine z_tableOut 11 rfl (by first | (rw [nI_toInt (by omega)]; omega) | (have e1 := z_ne (by decide) h19_1; have e2 := z_ne (by decide) h19_2; have e3 := z_ne (by decide) h19_3; have e4 := z_ne (by decide) h19_4; have e5 := z_ne (by decide) h19_5; omega)) (tgt := 122) rfl ?_
  refine z_new (pc' := 125) 52 rfl rfl w_Wb_310 (by omega) (by omega) ?_
  refine z_dup rfl (pc' := 126) 53 rfl rfl ?_
  refine z_il1 (pc' := 127) 54 rfl rfl ?_
  refine z_il2 (pc' := 128) 55 rfl rfl ?_
  refine z_al0 (pc' := 129) 56 rfl rfl ?_
  refine z_getf (pc' := 132) 57 rfl rfl f_Wb_66_11 (by first | assumption | (rw [zu_n (by omega)]; assumption)) (by rfl) ?_
  refine z_callI0 (pc' := 135) 58 rfl rfl k_Wb_344 (c_Gi_init_5) (by decide) (by omega) (by omega) rfl rfl (Nat.le_of_ble_eq_true rfl) ?_
  exact z_areturn 59 rfl rfl rfl rfl (by exact ⟨rfl, by rw [show ciK (S 1 g) = 5 by rw [show S 1 g = 0 by omega]; rfl]⟩)
set_option maxHeartbeats 4000000 in
set_option maxRecDepth 100000 in
theorem c_Wb_act0 {G : zG} {n u : Nat} {μ : Nat → va_E} {κ : zκ} {σ : zσ} {kp : Int32} {ac : Value} {tr : Nat → Int32} (h : cst μ κ) (hhe : isHe μ σ) (hob : isOb μ kp ac) (h87 : μ 87 = .inl (0, 30, .inl tr)) (hn : 106 ≤ n) (x y v : Int32) (hc : ¬ acC κ.1 σ x y) : zMet G 2 M_Wb_act [.ref 4, .int x, .int y, .int v] n u μ n u (fun r μ' => r = some (.int (nI 0)) ∧ isOb μ' kp .null ∧ ∀ i, i ≠ 4 → μ' i = μ i) := by
  obtain ⟨S, mo, pr, fa, sc, ch, rc, D⟩ := κ
  obtain ⟨h1, -, -, -, hk5⟩ := h
  have hi := hk5.1
  have hi0 := hi.1
  have hhe0 := hhe
  obtain ⟨nu, ss, h84, h85, h86, hH⟩ := hhe
  have hob0 := hob
  unfold isOb at hob
  refine z_start (lv := [.ref 4, .int x, .int y, .int v, .retAddr 0, .retAddr 0]) K_Wb_act rfl rfl (Nat.le_refl _) (Nat.le_refl _) (Nat.le_of_ble_eq_true rfl) rfl ?_
  refine z_al0 (pc' := 1) 0 rfl rfl ?_
  refine z_aconst_null (pc' := 2) 1 rfl rfl ?_
  refine z_putf (pc' := 5) 2 rfl rfl f_Wb_301_11 (by first | assumption | exact zu_s | (rw [zu_n (by decide)]; assumption)) rfl rfl (by rfl) (by rfl) ?_
  dsimp only [List.set]
  refine z_il1 (pc' := 6) 3 rfl rfl ?_
  refine z_callS1 (pc' := 9) 4 rfl rfl k_Wb_288 (c_Wb_isShelf _) (by decide) (Nat.le_refl _) (Nat.le_refl _) rfl rfl (Nat.le_of_ble_eq_true rfl) ?_
  first | refine z_if_eqB (pc' := 12) 5 rfl rfl (tgt := 29) rfl (fun h9 => ?_) (fun h9 => ?_) | refine z_if_eqN (pc' := 12) 5 rfl rfl (tgt := 29) rfl (by omega) (fun h9 => ?_) (fun h9 => ?_) | refine z_if_eq (pc' := 12) 5 rfl rfl (tgt := 29) rfl (fun h9 => ?_) (fun h9 => ?_)
  · refine z_iconst (v := nI 0) (by decide) (pc' := 30) 15 rfl rfl ?_
    exact z_ireturn 16 rfl rfl (by first | rfl | exact zbo_nar) rfl rfl (by exact ⟨rfl, zu_s, fun i hi => zu_n hi⟩)
  · refine z_il2 (pc' := 13) 6 rfl rfl ?_
    refine z_iconst (v := nI 0) (by decide) (pc' := 14) 7 rfl rfl ?_
    refine z_iconst (v := nI 3) (by decide) (pc' := 15) 8 rfl rfl ?_
    refine z_callS1 (pc' := 18) 9 rfl rfl k_Wb_72 (c_Wb_within _ _ _) (by decide) (Nat.le_refl _) (Nat.le_refl _) rfl rfl (Nat.le_of_ble_eq_true rfl) ?_
    first | refine z_if_eqB (pc' := 21) 10 rfl rfl (tgt := 29) rfl (fun h18 => ?_) (fun h18 => ?_) | refine z_if_eqN (pc' := 21) 10 rfl rfl (tgt := 29) rfl (by omega) (fun h18 => ?_) (fun h18 => ?_) | refine z_if_eq (pc' := 21) 10 rfl rfl (tgt := 29) rfl (fun h18 => ?_) (fun h18 => ?_)
    · refine z_iconst (v := nI 0) (by decide) (pc' := 30) 15 rfl rfl ?_
      exact z_ireturn 16 rfl rfl (by first | rfl | exact zbo_nar) rfl rfl (by exact ⟨rfl, zu_s, fun i hi => zu_n hi⟩)
    · have h9x := h9
      obtain ⟨x1, hx0, hx1, rfl⟩ := z_wi h9 (by decide) (by decide)
      have hh1 := hld_le (S := S) hH x1
      refine z_al0 (pc' := 22) 11 rfl rfl ?_
      refine z_il1 (pc' := 23) 12 rfl rfl ?_
      refine z_callV1 (pc' := 26) 13 rfl rfl k_Wb_295 (by first | assumption | exact zu_s | (rw [zu_n (by decide)]; assumption)) (c_Wb_heldOn (S := S) (sc := sc) (ch := ch) (σ := σ) (kp := kp) (ac := .null) (isCo_fr h1 (fun i hi => zu_n (by omega))) hi (isHe_fr hhe0 (fun i a b => zu_n (by omega))) zu_s hx1) (by decide) (Nat.le_refl _) (Nat.le_refl _) rfl rfl (Nat.le_of_ble_eq_true rfl) ?_
      first | refine z_if_eqB (pc' := 29) 14 rfl rfl (tgt := 31) rfl (fun h26 => ?_) (fun h26 => ?_) | refine z_if_eqN (pc' := 29) 14 rfl rfl (tgt := 31) rfl (by omega) (fun h26 => ?_) (fun h26 => ?_) | refine z_if_eq (pc' := 29) 14 rfl rfl (tgt := 31) rfl (fun h26 => ?_) (fun h26 => ?_)
      · exact absurd ⟨h9x, h18, by rw [tN_n (by omega)]; exact h26⟩ hc
      · refine z_iconst (v := nI 0) (by decide) (pc' := 30) 15 rfl rfl ?_
        exact z_ireturn 16 rfl rfl (by first | rfl | exact zbo_nar) rfl rfl (by exact ⟨rfl, zu_s, fun i hi => zu_n hi⟩)
set_option maxHeartbeats 4000000 in
set_option maxRecDepth 100000 in
theorem c_Wb_act1_0 {G : zG} {n u : Nat} {μ : Nat → va_E} {κ : zκ} {σ : zσ} {kp : Int32} {ac : Value} {tr : Nat → Int32} (h : cst μ κ) (hhe : isHe μ σ) (hob : isOb μ kp ac) (h87 : μ 87 = .inl (0, 30, .inl tr)) (hn : 106 ≤ n) (v : Int32) {x1 y1 g1 : Nat} (hx1 : x1 ≤ 3) (hy1 : y1 ≤ 3) (hg1 : g1 < κ.1 0 0) (eg : (σ x1).2.1 = nI g1) (hl0 : (σ x1).1 = 0) (ek : κ.1 1 g1 = 0) : zMet G 8 M_Wb_act [.ref 4, .int (nI x1), .int (nI y1), .int v] n u μ (n + 1) (u + 5) (fun r μ' => r = some (.int (acA (acK y1 0 g1 (κ.1 3 g1) v (0, false, tr)))) ∧ μ' = pth (zu μ 4 (.inr (11, [.ref 5, .ref 24, .int kp, .ref 43, .ref 47, .ref 51, .ref 56, .ref 81, .ref 82, .ref 83, .ref 84, .ref 85, .ref 86, .ref 87, (.ref n)]))) n 5 g1 (κ.1 3 g1) (acK y1 0 g1 (κ.1 3 g1) v (0, false, tr)).2) := by
  obtain ⟨S, mo, pr, fa, sc, ch, rc, D⟩ := κ
  obtain ⟨h1, -, -, -, hk5⟩ := h
  have hi := hk5.1
  have hi0 := hi.1
  have hhe0 := hhe
  obtain ⟨nu, ss, h84, h85, h86, hH⟩ := hhe
  have hob0 := hob
  unfold isOb at hob
  have hg1 : g1 < S 0 0 := hg1
  have hk9 : S 1 g1 = 0 := ek
  have hw9 : S 3 g1 ≤ 9 := (hi.2.2.2.2.2 g1).2.2.1
  have hl9 : hld S σ x1 = 0 := by rw [hld, if_neg (fun z => z.2 (by rw [eg]; exact ⟨nI_pos' (by omega), nI_lt hg1 (by omega)⟩))]; exact hl0
  have hA := fun (y : Nat) => iA_ac (y := y) (k := 0) (g := g1) (w := S 3 g1) (x := v) (st := (0, false, tr)) (Nat.zero_le _)
  refine z_start (lv := [.ref 4, .int (nI x1), .int (nI y1), .int v, .retAddr 0, .retAddr 0]) K_Wb_act rfl rfl (by omega) (by omega) (Nat.le_of_ble_eq_true rfl) rfl ?_
  refine z_al0 (pc' := 1) 0 rfl rfl ?_
  refine z_aconst_null (pc' := 2) 1 rfl rfl ?_
  refine z_putf (pc' := 5) 2 rfl rfl f_Wb_301_11 (by first | exact pth_A (by omega) | assumption | exact zu_s | (rw [zu_n (by decide)]; assumption) | (rw [zu_n (by omega)]; exact zu_s)) rfl rfl (by rfl) (by rfl) ?_
  dsimp only [List.set]
  refine z_il1 (pc' := 6) 3 rfl rfl ?_
  refine z_callS1 (pc' := 9) 4 rfl rfl k_Wb_288 (c_Wb_isShelf _) (by decide) (by omega) (by omega) rfl rfl (Nat.le_of_ble_eq_true rfl) ?_
  first | refine z_if_eqB (pc' := 12) 5 rfl rfl (tgt := 29) rfl (fun h9 => ?_) (fun h9 => ?_) | refine z_if_eqN (pc' := 12) 5 rfl rfl (tgt := 29) rfl (by omega) (fun h9 => ?_) (fun h9 => ?_) | refine z_if_eq (pc' := 12) 5 rfl rfl (tgt := 29) rfl (fun h9 => ?_) (fun h9 => ?_)
  · first | exact absurd h26 (by decide) | (exfalso; omega) | exact absurd ⟨nI_le (Nat.zero_le _) (by omega), nI_le hx1 (by decide)⟩ h9 | exact absurd ⟨nI_le (Nat.zero_le _) (by omega), nI_le hy1 (by decide)⟩ h18
  · refine z_il2 (pc' := 13) 6 rfl rfl ?_
    refine z_iconst (v := nI 0) (by decide) (pc' := 14) 7 rfl rfl ?_
    refine z_iconst (v := nI 3) (by decide) (pc' := 15) 8 rfl rfl ?_
    refine z_callS1 (pc' := 18) 9 rfl rfl k_Wb_72 (c_Wb_within _ _ _) (by decide) (by omega) (by omega) rfl rfl (Nat.le_of_ble_eq_true rfl) ?_
    first | refine z_if_eqB (pc' := 21) 10 rfl rfl (tgt := 29) rfl (fun h18 => ?_) (fun h18 => ?_) | refine z_if_eqN (pc' := 21) 10 rfl rfl (tgt := 29) rfl (by omega) (fun h18 => ?_) (fun h18 => ?_) | refine z_if_eq (pc' := 21) 10 rfl rfl (tgt := 29) rfl (fun h18 => ?_) (fun h18 => ?_)
    · first | exact absurd h26 (by decide) | (exfalso; omega) | exact absurd ⟨nI_le (Nat.zero_le _) (by omega), nI_le hx1 (by decide)⟩ h9 | exact absurd ⟨nI_le (Nat.zero_le _) (by omega), nI_le hy1 (by decide)⟩ h18
    · refine z_al0 (pc' := 22) 11 rfl rfl ?_
      refine z_il1 (pc' := 23) 12 rfl rfl ?_
      refine z_callV1 (pc' := 26) 13 rfl rfl k_Wb_295 (by first | exact pth_A (by omega) | assumption | exact zu_s | (rw [zu_n (by decide)]; assumption) | (rw [zu_n (by omega)]; exact zu_s)) (c_Wb_heldOn (S := S) (sc := sc) (ch := ch) (σ := σ) (kp := kp) (ac := .null) (isCo_fr h1 (fun i hi => zu_n (by omega))) hi (isHe_fr hhe0 (fun i a b => zu_n (by omega))) zu_s hx1) (by decide) (by omega) (by omega) rfl rfl (Nat.le_of_ble_eq_true rfl) ?_
      rw [hl9]
      first | refine z_if_eqB (pc' := 29) 14 rfl rfl (tgt := 31) rfl (fun h26 => ?_) (fun h26 => ?_) | refine z_if_eqN (pc' := 29) 14 rfl rfl (tgt := 31) rfl (by omega) (fun h26 => ?_) (fun h26 => ?_) | refine z_if_eq (pc' := 29) 14 rfl rfl (tgt := 31) rfl (fun h26 => ?_) (fun h26 => ?_)
      · refine z_al0 (pc' := 32) 17 rfl rfl ?_
        refine z_al0 (pc' := 33) 18 rfl rfl ?_
        refine z_getf (pc' := 36) 19 rfl rfl f_Wb_60_11 (by first | exact pth_A (by omega) | assumption | exact zu_s | (rw [zu_n (by decide)]; assumption) | (rw [zu_n (by omega)]; exact zu_s)) (by rfl) ?_
        refine z_il1 (pc' := 37) 20 rfl rfl ?_
        refine z_iald (pc' := 38) 21 rfl rfl (by first | exact pth_A (by omega) | assumption | exact zu_s | (rw [zu_n (by decide)]; assumption) | (rw [zu_n (by omega)]; exact zu_s)) (by omega) (by decide) ?_
        rw [(hH x1).2.1 hl0, eg]
        refine z_callV1 (pc' := 41) 22 rfl rfl k_Wb_305 (by first | exact pth_A (by omega) | assumption | exact zu_s | (rw [zu_n (by decide)]; assumption) | (rw [zu_n (by omega)]; exact zu_s)) (c_Wb_thingOf (isCo_fr h1 (fun i hi => zu_n (by omega))) hi (kp := kp) (ac := .null) zu_s hn (g := g1) (by omega)) (by decide) (by omega) (by omega) rfl rfl (Nat.le_of_ble_eq_true rfl) ?_
        rw [hk9, show ciK 0 = 5 from rfl]
        refine z_as4 rfl rfl (pc' := 43) 23 rfl rfl ?_
        refine z_al0 (pc' := 44) 24 rfl rfl ?_
        refine z_al4 (pc' := 46) 25 rfl rfl ?_
        refine z_putf (pc' := 49) 26 rfl rfl f_Wb_301_11 (by first | exact pth_A (by omega) | assumption | exact zu_s | (rw [zu_n (by decide)]; assumption) | (rw [zu_n (by omega)]; exact zu_s)) rfl rfl (by rfl) (by rfl) ?_
        dsimp only [List.set]
        rw [zu_sw (a := n) (b := 4) (by omega), zu_zu]
        refine z_mu (show _ = pth (zu μ 4 (.inr (11, [.ref 5, .ref 24, .int kp, .ref 43, .ref 47, .ref 51, .ref 56, .ref 81, .ref 82, .ref 83, .ref 84, .ref 85, .ref 86, .ref 87, (.ref n)]))) n 5 g1 (S 3 g1) (0, false, tr) from (zu_id (by rw [zu_n (by omega), zu_n (by decide)]; exact h87)).symm) ?_
        refine z_il2 (pc' := 50) 27 rfl rfl ?_
        first | refine z_swN (by omega) 0 (by decide) (fun h50_0 => ?_) (fun h50_0 => ?_) | refine z_sw 0 (fun h50_0 => ?_) (fun h50_0 => ?_)
        · refine z_tableIn 28 rfl (by decide) (by decide) (off := 26) rfl (tgt := 76) rfl ?_
          refine z_al4 (pc' := 78) 29 rfl rfl ?_
          refine z_il3 (pc' := 79) 30 rfl rfl ?_
          refine z_callU1 (pc' := 82) 31 rfl rfl k_Wb_309_5 (by first | exact pth_A (by omega) | assumption | exact zu_s | (rw [zu_n (by decide)]; assumption) | (rw [zu_n (by omega)]; exact zu_s)) (c_Gi_sails_5 (st := (0, false, tr)) (by omega) (by omega) hw9 (Nat.zero_le _)) (by decide) (by omega) (by omega) rfl rfl (Nat.le_of_ble_eq_true rfl) ?_
          refine z_is5 rfl rfl (pc' := 84) 32 rfl rfl ?_
          refine z_goto 33 rfl (tgt := 117) rfl ?_
          subst h50_0
          rw [show (saP g1 v (0, false, tr)) = acK 0 0 g1 (S 3 g1) v (0, false, tr) from rfl]
          have hA9 := hA 0
          generalize acK 0 0 g1 (S 3 g1) v (0, false, tr) = R at *
          refine z_al4 (pc' := 119) 48 rfl rfl ?_
          refine z_getf (pc' := 122) 49 rfl rfl f_Wb_323_5 (by exact pth_A (by omega)) (by rfl) ?_
          first | refine z_if_eqB (pc' := 125) 50 rfl rfl (tgt := 130) rfl (fun h122 => ?_) (fun h122 => ?_) | refine z_if_eqN (pc' := 125) 50 rfl rfl (tgt := 130) rfl (by omega) (fun h122 => ?_) (fun h122 => ?_) | refine z_if_eq (pc' := 125) 50 rfl rfl (tgt := 130) rfl (fun h122 => ?_) (fun h122 => ?_)
          · refine z_il5 (pc' := 132) 53 rfl rfl ?_
            exact z_ireturn 54 rfl rfl (by first | rfl | exact zbo_nar) rfl rfl (by exact ⟨by rw [acA, if_neg h122], rfl⟩)
          · refine z_bipush (v := (-15)) (by decide) (pc' := 127) 51 rfl rfl ?_
            refine z_goto 52 rfl (tgt := 132) rfl ?_
            exact z_ireturn 54 rfl rfl (by first | rfl | exact zbo_nar) rfl rfl (by exact ⟨by rw [acA, if_pos h122], rfl⟩)
        first | refine z_swN (by omega) 1 (by decide) (fun h50_1 => ?_) (fun h50_1 => ?_) | refine z_sw 1 (fun h50_1 => ?_) (fun h50_1 => ?_)
        · refine z_tableIn 28 rfl (by decide) (by decide) (off := 37) rfl (tgt := 87) rfl ?_
          refine z_al4 (pc' := 89) 34 rfl rfl ?_
          refine z_il3 (pc' := 90) 35 rfl rfl ?_
          refine z_callU1 (pc' := 93) 36 rfl rfl k_Wb_314_5 (by first | exact pth_A (by omega) | assumption | exact zu_s | (rw [zu_n (by decide)]; assumption) | (rw [zu_n (by omega)]; exact zu_s)) (c_Gi_calls_5 (st := (0, false, tr)) (by omega) (by omega) hw9 (Nat.zero_le _)) (by decide) (by omega) (by omega) rfl rfl (Nat.le_of_ble_eq_true rfl) ?_
          refine z_is5 rfl rfl (pc' := 95) 37 rfl rfl ?_
          refine z_goto 38 rfl (tgt := 117) rfl ?_
          subst h50_1
          rw [show (caP 0 g1 (S 3 g1) v (0, false, tr)) = acK 1 0 g1 (S 3 g1) v (0, false, tr) from rfl]
          have hA9 := hA 1
          generalize acK 1 0 g1 (S 3 g1) v (0, false, tr) = R at *
          refine z_al4 (pc' := 119) 48 rfl rfl ?_
          refine z_getf (pc' := 122) 49 rfl rfl f_Wb_323_5 (by exact pth_A (by omega)) (by rfl) ?_
          first | refine z_if_eqB (pc' := 125) 50 rfl rfl (tgt := 130) rfl (fun h122 => ?_) (fun h122 => ?_) | refine z_if_eqN (pc' := 125) 50 rfl rfl (tgt := 130) rfl (by omega) (fun h122 => ?_) (fun h122 => ?_) | refine z_if_eq (pc' := 125) 50 rfl rfl (tgt := 130) rfl (fun h122 => ?_) (fun h122 => ?_)
          · refine z_il5 (pc' := 132) 53 rfl rfl ?_
            exact z_ireturn 54 rfl rfl (by first | rfl | exact zbo_nar) rfl rfl (by exact ⟨by rw [acA, if_neg h122], rfl⟩)
          · refine z_bipush (v := (-15)) (by decide) (pc' := 127) 51 rfl rfl ?_
            refine z_goto 52 rfl (tgt := 132) rfl ?_
            exact z_ireturn 54 rfl rfl (by first | rfl | exact zbo_nar) rfl rfl (by exact ⟨by rw [acA, if_pos h122], rfl⟩)
        first | refine z_swN (by omega) 2 (by decide) (fun h50_2 => ?_) (fun h50_2 => ?_) | refine z_sw 2 (fun h50_2 => ?_) (fun h50_2 => ?_)
        · refine z_tableIn 28 rfl (by decide) (by decide) (off := 48) rfl (tgt := 98) rfl ?_
          refine z_al4 (pc' := 100) 39 rfl rfl ?_
          refine z_il3 (pc' := 101) 40 rfl rfl ?_
          refine z_callU1 (pc' := 104) 41 rfl rfl k_Wb_317_5 (by first | exact pth_A (by omega) | assumption | exact zu_s | (rw [zu_n (by decide)]; assumption) | (rw [zu_n (by omega)]; exact zu_s)) (c_Gi_shares_5 (st := (0, false, tr)) (by omega) (by omega) hw9 (Nat.zero_le _)) (by decide) (by omega) (by omega) rfl rfl (Nat.le_of_ble_eq_true rfl) ?_
          refine z_is5 rfl rfl (pc' := 106) 42 rfl rfl ?_
          refine z_goto 43 rfl (tgt := 117) rfl ?_
          subst h50_2
          rw [show (shP g1 (S 3 g1) v (0, false, tr)) = acK 2 0 g1 (S 3 g1) v (0, false, tr) from rfl]
          have hA9 := hA 2
          generalize acK 2 0 g1 (S 3 g1) v (0, false, tr) = R at *
          refine z_al4 (pc' := 119) 48 rfl rfl ?_
          refine z_getf (pc' := 122) 49 rfl rfl f_Wb_323_5 (by exact pth_A (by omega)) (by rfl) ?_
          first | refine z_if_eqB (pc' := 125) 50 rfl rfl (tgt := 130) rfl (fun h122 => ?_) (fun h122 => ?_) | refine z_if_eqN (pc' := 125) 50 rfl rfl (tgt := 130) rfl (by omega) (fun h122 => ?_) (fun h122 => ?_) | refine z_if_eq (pc' := 125) 50 rfl rfl (tgt := 130) rfl (fun h122 => ?_) (fun h122 => ?_)
          · refine z_il5 (pc' := 132) 53 rfl rfl ?_
            exact z_ireturn 54 rfl rfl (by first | rfl | exact zbo_nar) rfl rfl (by exact ⟨by rw [acA, if_neg h122], rfl⟩)
          · refine z_bipush (v := (-15)) (by decide) (pc' := 127) 51 rfl rfl ?_
            refine z_goto 52 rfl (tgt := 132) rfl ?_
            exact z_ireturn 54 rfl rfl (by first | rfl | exact zbo_nar) rfl rfl (by exact ⟨by rw [acA, if_pos h122], rfl⟩)
        refine z_tableOut 28 rfl (by first | (rw [nI_toInt (by omega)]; omega) | (have e0 := z_ne (by decide) h50_0; have e1 := z_ne (by decide) h50_1; have e2 := z_ne (by decide) h50_2; omega)) (tgt := 109) rfl ?_
        refine z_al4 (pc' := 111) 44 rfl rfl ?_
        refine z_il3 (pc' := 112) 45 rfl rfl ?_
        refine z_callU1 (pc' := 115) 46 rfl rfl k_Wb_320_5 (by first | exact pth_A (by omega) | assumption | exact zu_s | (rw [zu_n (by decide)]; assumption) | (rw [zu_n (by omega)]; exact zu_s)) (c_Gi_weds_5 (st := (0, false, tr)) (by omega) (by omega) hw9 (Nat.zero_le _)) (by decide) (by omega) (by omega) rfl rfl (Nat.le_of_ble_eq_true rfl) ?_
        refine z_is5 rfl rfl (pc' := 117) 47 rfl rfl ?_
        obtain rfl : y1 = 3 := by omega
        rw [show (weP 0 g1 (S 3 g1) v (0, false, tr)) = acK 3 0 g1 (S 3 g1) v (0, false, tr) from rfl]
        have hA9 := hA 3
        generalize acK 3 0 g1 (S 3 g1) v (0, false, tr) = R at *
        refine z_al4 (pc' := 119) 48 rfl rfl ?_
        refine z_getf (pc' := 122) 49 rfl rfl f_Wb_323_5 (by exact pth_A (by omega)) (by rfl) ?_
        first | refine z_if_eqB (pc' := 125) 50 rfl rfl (tgt := 130) rfl (fun h122 => ?_) (fun h122 => ?_) | refine z_if_eqN (pc' := 125) 50 rfl rfl (tgt := 130) rfl (by omega) (fun h122 => ?_) (fun h122 => ?_) | refine z_if_eq (pc' := 125) 50 rfl rfl (tgt := 130) rfl (fun h122 => ?_) (fun h122 => ?_)
        · refine z_il5 (pc' := 132) 53 rfl rfl ?_
          exact z_ireturn 54 rfl rfl (by first | rfl | exact zbo_nar) rfl rfl (by exact ⟨by rw [acA, if_neg h122], rfl⟩)
        · refine z_bipush (v := (-15)) (by decide) (pc' := 127) 51 rfl rfl ?_
          refine z_goto 52 rfl (tgt := 132) rfl ?_
          exact z_ireturn 54 rfl rfl (by first | rfl | exact zbo_nar) rfl rfl (by exact ⟨by rw [acA, if_pos h122], rfl⟩)
      · first | exact absurd h26 (by decide) | (exfalso; omega) | exact absurd ⟨nI_le (Nat.zero_le _) (by omega), nI_le hx1 (by decide)⟩ h9 | exact absurd ⟨nI_le (Nat.zero_le _) (by omega), nI_le hy1 (by decide)⟩ h18
set_option maxHeartbeats 4000000 in
set_option maxRecDepth 100000 in
theorem c_Wb_act1_1 {G : zG} {n u : Nat} {μ : Nat → va_E} {κ : zκ} {σ : zσ} {kp : Int32} {ac : Value} {tr : Nat → Int32} (h : cst μ κ) (hhe : isHe μ σ) (hob : isOb μ kp ac) (h87 : μ 87 = .inl (0, 30, .inl tr)) (hn : 106 ≤ n) (v : Int32) {x1 y1 g1 : Nat} (hx1 : x1 ≤ 3) (hy1 : y1 ≤ 3) (hg1 : g1 < κ.1 0 0) (eg : (σ x1).2.1 = nI g1) (hl0 : (σ x1).1 = 0) (ek : κ.1 1 g1 = 1) : zMet G 8 M_Wb_act [.ref 4, .int (nI x1), .int (nI y1), .int v] n u μ (n + 1) (u + 5) (fun r μ' => r = some (.int (acA (acK y1 1 g1 (κ.1 3 g1) v (0, false, tr)))) ∧ μ' = pth (zu μ 4 (.inr (11, [.ref 5, .ref 24, .int kp, .ref 43, .ref 47, .ref 51, .ref 56, .ref 81, .ref 82, .ref 83, .ref 84, .ref 85, .ref 86, .ref 87, (.ref n)]))) n 8 g1 (κ.1 3 g1) (acK y1 1 g1 (κ.1 3 g1) v (0, false, tr)).2) := by
  obtain ⟨S, mo, pr, fa, sc, ch, rc, D⟩ := κ
  obtain ⟨h1, -, -, -, hk5⟩ := h
  have hi := hk5.1
  have hi0 := hi.1
  have hhe0 := hhe
  obtain ⟨nu, ss, h84, h85, h86, hH⟩ := hhe
  have hob0 := hob
  unfold isOb at hob
  have hg1 : g1 < S 0 0 := hg1
  have hk9 : S 1 g1 = 1 := ek
  have hw9 : S 3 g1 ≤ 9 := (hi.2.2.2.2.2 g1).2.2.1
  have hl9 : hld S σ x1 = 0 := by rw [hld, if_neg (fun z => z.2 (by rw [eg]; exact ⟨nI_pos' (by omega), nI_lt hg1 (by omega)⟩))]; exact hl0
  have hA := fun (y : Nat) => iA_ac (y := y) (k := 1) (g := g1) (w := S 3 g1) (x := v) (st := (0, false, tr)) (Nat.zero_le _)
  refine z_start (lv := [.ref 4, .int (nI x1), .int (nI y1), .int v, .retAddr 0, .retAddr 0]) K_Wb_act rfl rfl (by omega) (by omega) (Nat.le_of_ble_eq_true rfl) rfl ?_
  refine z_al0 (pc' := 1) 0 rfl rfl ?_
  refine z_aconst_null (pc' := 2) 1 rfl rfl ?_
  refine z_putf (pc' := 5) 2 rfl rfl f_Wb_301_11 (by first | exact pth_A (by omega) | assumption | exact zu_s | (rw [zu_n (by decide)]; assumption) | (rw [zu_n (by omega)]; exact zu_s)) rfl rfl (by rfl) (by rfl) ?_
  dsimp only [List.set]
  refine z_il1 (pc' := 6) 3 rfl rfl ?_
  refine z_callS1 (pc' := 9) 4 rfl rfl k_Wb_288 (c_Wb_isShelf _) (by decide) (by omega) (by omega) rfl rfl (Nat.le_of_ble_eq_true rfl) ?_
  first | refine z_if_eqB (pc' := 12) 5 rfl rfl (tgt := 29) rfl (fun h9 => ?_) (fun h9 => ?_) | refine z_if_eqN (pc' := 12) 5 rfl rfl (tgt := 29) rfl (by omega) (fun h9 => ?_) (fun h9 => ?_) | refine z_if_eq (pc' := 12) 5 rfl rfl (tgt := 29) rfl (fun h9 => ?_) (fun h9 => ?_)
  · first | exact absurd h26 (by decide) | (exfalso; omega) | exact absurd ⟨nI_le (Nat.zero_le _) (by omega), nI_le hx1 (by decide)⟩ h9 | exact absurd ⟨nI_le (Nat.zero_le _) (by omega), nI_le hy1 (by decide)⟩ h18
  · refine z_il2 (pc' := 13) 6 rfl rfl ?_
    refine z_iconst (v := nI 0) (by decide) (pc' := 14) 7 rfl rfl ?_
    refine z_iconst (v := nI 3) (by decide) (pc' := 15) 8 rfl rfl ?_
    refine z_callS1 (pc' := 18) 9 rfl rfl k_Wb_72 (c_Wb_within _ _ _) (by decide) (by omega) (by omega) rfl rfl (Nat.le_of_ble_eq_true rfl) ?_
    first | refine z_if_eqB (pc' := 21) 10 rfl rfl (tgt := 29) rfl (fun h18 => ?_) (fun h18 => ?_) | refine z_if_eqN (pc' := 21) 10 rfl rfl (tgt := 29) rfl (by omega) (fun h18 => ?_) (fun h18 => ?_) | refine z_if_eq (pc' := 21) 10 rfl rfl (tgt := 29) rfl (fun h18 => ?_) (fun h18 => ?_)
    · first | exact absurd h26 (by decide) | (exfalso; omega) | exact absurd ⟨nI_le (Nat.zero_le _) (by omega), nI_le hx1 (by decide)⟩ h9 | exact absurd ⟨nI_le (Nat.zero_le _) (by omega), nI_le hy1 (by decide)⟩ h18
    · refine z_al0 (pc' := 22) 11 rfl rfl ?_
      refine z_il1 (pc' := 23) 12 rfl rfl ?_
      refine z_callV1 (pc' := 26) 13 rfl rfl k_Wb_295 (by first | exact pth_A (by omega) | assumption | exact zu_s | (rw [zu_n (by decide)]; assumption) | (rw [zu_n (by omega)]; exact zu_s)) (c_Wb_heldOn (S := S) (sc := sc) (ch := ch) (σ := σ) (kp := kp) (ac := .null) (isCo_fr h1 (fun i hi => zu_n (by omega))) hi (isHe_fr hhe0 (fun i a b => zu_n (by omega))) zu_s hx1) (by decide) (by omega) (by omega) rfl rfl (Nat.le_of_ble_eq_true rfl) ?_
      rw [hl9]
      first | refine z_if_eqB (pc' := 29) 14 rfl rfl (tgt := 31) rfl (fun h26 => ?_) (fun h26 => ?_) | refine z_if_eqN (pc' := 29) 14 rfl rfl (tgt := 31) rfl (by omega) (fun h26 => ?_) (fun h26 => ?_) | refine z_if_eq (pc' := 29) 14 rfl rfl (tgt := 31) rfl (fun h26 => ?_) (fun h26 => ?_)
      · refine z_al0 (pc' := 32) 17 rfl rfl ?_
        refine z_al0 (pc' := 33) 18 rfl rfl ?_
        refine z_getf (pc' := 36) 19 rfl rfl f_Wb_60_11 (by first | exact pth_A (by omega) | assumption | exact zu_s | (rw [zu_n (by decide)]; assumption) | (rw [zu_n (by omega)]; exact zu_s)) (by rfl) ?_
        refine z_il1 (pc' := 37) 20 rfl rfl ?_
        refine z_iald (pc' := 38) 21 rfl rfl (by first | exact pth_A (by omega) | assumption | exact zu_s | (rw [zu_n (by decide)]; assumption) | (rw [zu_n (by omega)]; exact zu_s)) (by omega) (by decide) ?_
        rw [(hH x1).2.1 hl0, eg]
        refine z_callV1 (pc' := 41) 22 rfl rfl k_Wb_305 (by first | exact pth_A (by omega) | assumption | exact zu_s | (rw [zu_n (by decide)]; assumption) | (rw [zu_n (by omega)]; exact zu_s)) (c_Wb_thingOf (isCo_fr h1 (fun i hi => zu_n (by omega))) hi (kp := kp) (ac := .null) zu_s hn (g := g1) (by omega)) (by decide) (by omega) (by omega) rfl rfl (Nat.le_of_ble_eq_true rfl) ?_
        rw [hk9, show ciK 1 = 8 from rfl]
        refine z_as4 rfl rfl (pc' := 43) 23 rfl rfl ?_
        refine z_al0 (pc' := 44) 24 rfl rfl ?_
        refine z_al4 (pc' := 46) 25 rfl rfl ?_
        refine z_putf (pc' := 49) 26 rfl rfl f_Wb_301_11 (by first | exact pth_A (by omega) | assumption | exact zu_s | (rw [zu_n (by decide)]; assumption) | (rw [zu_n (by omega)]; exact zu_s)) rfl rfl (by rfl) (by rfl) ?_
        dsimp only [List.set]
        rw [zu_sw (a := n) (b := 4) (by omega), zu_zu]
        refine z_mu (show _ = pth (zu μ 4 (.inr (11, [.ref 5, .ref 24, .int kp, .ref 43, .ref 47, .ref 51, .ref 56, .ref 81, .ref 82, .ref 83, .ref 84, .ref 85, .ref 86, .ref 87, (.ref n)]))) n 8 g1 (S 3 g1) (0, false, tr) from (zu_id (by rw [zu_n (by omega), zu_n (by decide)]; exact h87)).symm) ?_
        refine z_il2 (pc' := 50) 27 rfl rfl ?_
        first | refine z_swN (by omega) 0 (by decide) (fun h50_0 => ?_) (fun h50_0 => ?_) | refine z_sw 0 (fun h50_0 => ?_) (fun h50_0 => ?_)
        · refine z_tableIn 28 rfl (by decide) (by decide) (off := 26) rfl (tgt := 76) rfl ?_
          refine z_al4 (pc' := 78) 29 rfl rfl ?_
          refine z_il3 (pc' := 79) 30 rfl rfl ?_
          refine z_callU1 (pc' := 82) 31 rfl rfl k_Wb_309_8 (by first | exact pth_A (by omega) | assumption | exact zu_s | (rw [zu_n (by decide)]; assumption) | (rw [zu_n (by omega)]; exact zu_s)) (c_Sh_sails_8 (st := (0, false, tr)) (by omega) (by omega) hw9 (Nat.zero_le _)) (by decide) (by omega) (by omega) rfl rfl (Nat.le_of_ble_eq_true rfl) ?_
          refine z_is5 rfl rfl (pc' := 84) 32 rfl rfl ?_
          refine z_goto 33 rfl (tgt := 117) rfl ?_
          subst h50_0
          rw [show (saK 1 g1 v (0, false, tr)) = acK 0 1 g1 (S 3 g1) v (0, false, tr) from rfl]
          have hA9 := hA 0
          generalize acK 0 1 g1 (S 3 g1) v (0, false, tr) = R at *
          refine z_al4 (pc' := 119) 48 rfl rfl ?_
          refine z_getf (pc' := 122) 49 rfl rfl f_Wb_323_8 (by exact pth_A (by omega)) (by rfl) ?_
          first | refine z_if_eqB (pc' := 125) 50 rfl rfl (tgt := 130) rfl (fun h122 => ?_) (fun h122 => ?_) | refine z_if_eqN (pc' := 125) 50 rfl rfl (tgt := 130) rfl (by omega) (fun h122 => ?_) (fun h122 => ?_) | refine z_if_eq (pc' := 125) 50 rfl rfl (tgt := 130) rfl (fun h122 => ?_) (fun h122 => ?_)
          · refine z_il5 (pc' := 132) 53 rfl rfl ?_
            exact z_ireturn 54 rfl rfl (by first | rfl | exact zbo_nar) rfl rfl (by exact ⟨by rw [acA, if_neg h122], rfl⟩)
          · refine z_bipush (v := (-15)) (by decide) (pc' := 127) 51 rfl rfl ?_
            refine z_goto 52 rfl (tgt := 132) rfl ?_
            exact z_ireturn 54 rfl rfl (by first | rfl | exact zbo_nar) rfl rfl (by exact ⟨by rw [acA, if_pos h122], rfl⟩)
        first | refine z_swN (by omega) 1 (by decide) (fun h50_1 => ?_) (fun h50_1 => ?_) | refine z_sw 1 (fun h50_1 => ?_) (fun h50_1 => ?_)
        · refine z_tableIn 28 rfl (by decide) (by decide) (off := 37) rfl (tgt := 87) rfl ?_
          refine z_al4 (pc' := 89) 34 rfl rfl ?_
          refine z_il3 (pc' := 90) 35 rfl rfl ?_
          refine z_callU1 (pc' := 93) 36 rfl rfl k_Wb_314_8 (by first | exact pth_A (by omega) | assumption | exact zu_s | (rw [zu_n (by decide)]; assumption) | (rw [zu_n (by omega)]; exact zu_s)) (c_Gi_calls_8 (st := (0, false, tr)) (by omega) (by omega) hw9 (Nat.zero_le _)) (by decide) (by omega) (by omega) rfl rfl (Nat.le_of_ble_eq_true rfl) ?_
          refine z_is5 rfl rfl (pc' := 95) 37 rfl rfl ?_
          refine z_goto 38 rfl (tgt := 117) rfl ?_
          subst h50_1
          rw [show (caP 1 g1 (S 3 g1) v (0, false, tr)) = acK 1 1 g1 (S 3 g1) v (0, false, tr) from rfl]
          have hA9 := hA 1
          generalize acK 1 1 g1 (S 3 g1) v (0, false, tr) = R at *
          refine z_al4 (pc' := 119) 48 rfl rfl ?_
          refine z_getf (pc' := 122) 49 rfl rfl f_Wb_323_8 (by exact pth_A (by omega)) (by rfl) ?_
          first | refine z_if_eqB (pc' := 125) 50 rfl rfl (tgt := 130) rfl (fun h122 => ?_) (fun h122 => ?_) | refine z_if_eqN (pc' := 125) 50 rfl rfl (tgt := 130) rfl (by omega) (fun h122 => ?_) (fun h122 => ?_) | refine z_if_eq (pc' := 125) 50 rfl rfl (tgt := 130) rfl (fun h122 => ?_) (fun h122 => ?_)
          · refine z_il5 (pc' := 132) 53 rfl rfl ?_
            exact z_ireturn 54 rfl rfl (by first | rfl | exact zbo_nar) rfl rfl (by exact ⟨by rw [acA, if_neg h122], rfl⟩)
          · refine z_bipush (v := (-15)) (by decide) (pc' := 127) 51 rfl rfl ?_
            refine z_goto 52 rfl (tgt := 132) rfl ?_
            exact z_ireturn 54 rfl rfl (by first | rfl | exact zbo_nar) rfl rfl (by exact ⟨by rw [acA, if_pos h122], rfl⟩)
        first | refine z_swN (by omega) 2 (by decide) (fun h50_2 => ?_) (fun h50_2 => ?_) | refine z_sw 2 (fun h50_2 => ?_) (fun h50_2 => ?_)
        · refine z_tableIn 28 rfl (by decide) (by decide) (off := 48) rfl (tgt := 98) rfl ?_
          refine z_al4 (pc' := 100) 39 rfl rfl ?_
          refine z_il3 (pc' := 101) 40 rfl rfl ?_
          refine z_callU1 (pc' := 104) 41 rfl rfl k_Wb_317_8 (by first | exact pth_A (by omega) | assumption | exact zu_s | (rw [zu_n (by decide)]; assumption) | (rw [zu_n (by omega)]; exact zu_s)) (c_Gi_shares_8 (st := (0, false, tr)) (by omega) (by omega) hw9 (Nat.zero_le _)) (by decide) (by omega) (by omega) rfl rfl (Nat.le_of_ble_eq_true rfl) ?_
          refine z_is5 rfl rfl (pc' := 106) 42 rfl rfl ?_
          refine z_goto 43 rfl (tgt := 117) rfl ?_
          subst h50_2
          rw [show (shP g1 (S 3 g1) v (0, false, tr)) = acK 2 1 g1 (S 3 g1) v (0, false, tr) from rfl]
          have hA9 := hA 2
          generalize acK 2 1 g1 (S 3 g1) v (0, false, tr) = R at *
          refine z_al4 (pc' := 119) 48 rfl rfl ?_
          refine z_getf (pc' := 122) 49 rfl rfl f_Wb_323_8 (by exact pth_A (by omega)) (by rfl) ?_
          first | refine z_if_eqB (pc' := 125) 50 rfl rfl (tgt := 130) rfl (fun h122 => ?_) (fun h122 => ?_) | refine z_if_eqN (pc' := 125) 50 rfl rfl (tgt := 130) rfl (by omega) (fun h122 => ?_) (fun h122 => ?_) | refine z_if_eq (pc' := 125) 50 rfl rfl (tgt := 130) rfl (fun h122 => ?_) (fun h122 => ?_)
          · refine z_il5 (pc' := 132) 53 rfl rfl ?_
            exact z_ireturn 54 rfl rfl (by first | rfl | exact zbo_nar) rfl rfl (by exact ⟨by rw [acA, if_neg h122], rfl⟩)
          · refine z_bipush (v := (-15)) (by decide) (pc' := 127) 51 rfl rfl ?_
            refine z_goto 52 rfl (tgt := 132) rfl ?_
            exact z_ireturn 54 rfl rfl (by first | rfl | exact zbo_nar) rfl rfl (by exact ⟨by rw [acA, if_pos h122], rfl⟩)
        refine z_tableOut 28 rfl (by first | (rw [nI_toInt (by omega)]; omega) | (have e0 := z_ne (by decide) h50_0; have e1 := z_ne (by decide) h50_1; have e2 := z_ne (by decide) h50_2; omega)) (tgt := 109) rfl ?_
        refine z_al4 (pc' := 111) 44 rfl rfl ?_
        refine z_il3 (pc' := 112) 45 rfl rfl ?_
        refine z_callU1 (pc' := 115) 46 rfl rfl k_Wb_320_8 (by first | exact pth_A (by omega) | assumption | exact zu_s | (rw [zu_n (by decide)]; assumption) | (rw [zu_n (by omega)]; exact zu_s)) (c_Gi_weds_8 (st := (0, false, tr)) (by omega) (by omega) hw9 (Nat.zero_le _)) (by decide) (by omega) (by omega) rfl rfl (Nat.le_of_ble_eq_true rfl) ?_
        refine z_is5 rfl rfl (pc' := 117) 47 rfl rfl ?_
        obtain rfl : y1 = 3 := by omega
        rw [show (weP 1 g1 (S 3 g1) v (0, false, tr)) = acK 3 1 g1 (S 3 g1) v (0, false, tr) from rfl]
        have hA9 := hA 3
        generalize acK 3 1 g1 (S 3 g1) v (0, false, tr) = R at *
        refine z_al4 (pc' := 119) 48 rfl rfl ?_
        refine z_getf (pc' := 122) 49 rfl rfl f_Wb_323_8 (by exact pth_A (by omega)) (by rfl) ?_
        first | refine z_if_eqB (pc' := 125) 50 rfl rfl (tgt := 130) rfl (fun h122 => ?_) (fun h122 => ?_) | refine z_if_eqN (pc' := 125) 50 rfl rfl (tgt := 130) rfl (by omega) (fun h122 => ?_) (fun h122 => ?_) | refine z_if_eq (pc' := 125) 50 rfl rfl (tgt := 130) rfl (fun h122 => ?_) (fun h122 => ?_)
        · refine z_il5 (pc' := 132) 53 rfl rfl ?_
          exact z_ireturn 54 rfl rfl (by first | rfl | exact zbo_nar) rfl rfl (by exact ⟨by rw [acA, if_neg h122], rfl⟩)
        · refine z_bipush (v := (-15)) (by decide) (pc' := 127) 51 rfl rfl ?_
          refine z_goto 52 rfl (tgt := 132) rfl ?_
          exact z_ireturn 54 rfl rfl (by first | rfl | exact zbo_nar) rfl rfl (by exact ⟨by rw [acA, if_pos h122], rfl⟩)
      · first | exact absurd h26 (by decide) | (exfalso; omega) | exact absurd ⟨nI_le (Nat.zero_le _) (by omega), nI_le hx1 (by decide)⟩ h9 | exact absurd ⟨nI_le (Nat.zero_le _) (by omega), nI_le hy1 (by decide)⟩ h18
set_option maxHeartbeats 4000000 in
set_option maxRecDepth 100000 in
theorem c_Wb_act1_2 {G : zG} {n u : Nat} {μ : Nat → va_E} {κ : zκ} {σ : zσ} {kp : Int32} {ac : Value} {tr : Nat → Int32} (h : cst μ κ) (hhe : isHe μ σ) (hob : isOb μ kp ac) (h87 : μ 87 = .inl (0, 30, .inl tr)) (hn : 106 ≤ n) (v : Int32) {x1 y1 g1 : Nat} (hx1 : x1 ≤ 3) (hy1 : y1 ≤ 3) (hg1 : g1 < κ.1 0 0) (eg : (σ x1).2.1 = nI g1) (hl0 : (σ x1).1 = 0) (ek : κ.1 1 g1 = 2) : zMet G 8 M_Wb_act [.ref 4, .int (nI x1), .int (nI y1), .int v] n u μ (n + 1) (u + 5) (fun r μ' => r = some (.int (acA (acK y1 2 g1 (κ.1 3 g1) v (0, false, tr)))) ∧ μ' = pth (zu μ 4 (.inr (11, [.ref 5, .ref 24, .int kp, .ref 43, .ref 47, .ref 51, .ref 56, .ref 81, .ref 82, .ref 83, .ref 84, .ref 85, .ref 86, .ref 87, (.ref n)]))) n 1 g1 (κ.1 3 g1) (acK y1 2 g1 (κ.1 3 g1) v (0, false, tr)).2) := by
  obtain ⟨S, mo, pr, fa, sc, ch, rc, D⟩ := κ
  obtain ⟨h1, -, -, -, hk5⟩ := h
  have hi := hk5.1
  have hi0 := hi.1
  have hhe0 := hhe
  obtain ⟨nu, ss, h84, h85, h86, hH⟩ := hhe
  have hob0 := hob
  unfold isOb at hob
  have hg1 : g1 < S 0 0 := hg1
  have hk9 : S 1 g1 = 2 := ek
  have hw9 : S 3 g1 ≤ 9 := (hi.2.2.2.2.2 g1).2.2.1
  have hl9 : hld S σ x1 = 0 := by rw [hld, if_neg (fun z => z.2 (by rw [eg]; exact ⟨nI_pos' (by omega), nI_lt hg1 (by omega)⟩))]; exact hl0
  have hA := fun (y : Nat) => iA_ac (y := y) (k := 2) (g := g1) (w := S 3 g1) (x := v) (st := (0, false, tr)) (Nat.zero_le _)
  refine z_start (lv := [.ref 4, .int (nI x1), .int (nI y1), .int v, .retAddr 0, .retAddr 0]) K_Wb_act rfl rfl (by omega) (by omega) (Nat.le_of_ble_eq_true rfl) rfl ?_
  refine z_al0 (pc' := 1) 0 rfl rfl ?_
  refine z_aconst_null (pc' := 2) 1 rfl rfl ?_
  refine z_putf (pc' := 5) 2 rfl rfl f_Wb_301_11 (by first | exact pth_A (by omega) | assumption | exact zu_s | (rw [zu_n (by decide)]; assumption) | (rw [zu_n (by omega)]; exact zu_s)) rfl rfl (by rfl) (by rfl) ?_
  dsimp only [List.set]
  refine z_il1 (pc' := 6) 3 rfl rfl ?_
  refine z_callS1 (pc' := 9) 4 rfl rfl k_Wb_288 (c_Wb_isShelf _) (by decide) (by omega) (by omega) rfl rfl (Nat.le_of_ble_eq_true rfl) ?_
  first | refine z_if_eqB (pc' := 12) 5 rfl rfl (tgt := 29) rfl (fun h9 => ?_) (fun h9 => ?_) | refine z_if_eqN (pc' := 12) 5 rfl rfl (tgt := 29) rfl (by omega) (fun h9 => ?_) (fun h9 => ?_) | refine z_if_eq (pc' := 12) 5 rfl rfl (tgt := 29) rfl (fun h9 => ?_) (fun h9 => ?_)
  · first | exact absurd h26 (by decide) | (exfalso; omega) | exact absurd ⟨nI_le (Nat.zero_le _) (by omega), nI_le hx1 (by decide)⟩ h9 | exact absurd ⟨nI_le (Nat.zero_le _) (by omega), nI_le hy1 (by decide)⟩ h18
  · refine z_il2 (pc' := 13) 6 rfl rfl ?_
    refine z_iconst (v := nI 0) (by decide) (pc' := 14) 7 rfl rfl ?_
    refine z_iconst (v := nI 3) (by decide) (pc' := 15) 8 rfl rfl ?_
    refine z_callS1 (pc' := 18) 9 rfl rfl k_Wb_72 (c_Wb_within _ _ _) (by decide) (by omega) (by omega) rfl rfl (Nat.le_of_ble_eq_true rfl) ?_
    first | refine z_if_eqB (pc' := 21) 10 rfl rfl (tgt := 29) rfl (fun h18 => ?_) (fun h18 => ?_) | refine z_if_eqN (pc' := 21) 10 rfl rfl (tgt := 29) rfl (by omega) (fun h18 => ?_) (fun h18 => ?_) | refine z_if_eq (pc' := 21) 10 rfl rfl (tgt := 29) rfl (fun h18 => ?_) (fun h18 => ?_)
    · first | exact absurd h26 (by decide) | (exfalso; omega) | exact absurd ⟨nI_le (Nat.zero_le _) (by omega), nI_le hx1 (by decide)⟩ h9 | exact absurd ⟨nI_le (Nat.zero_le _) (by omega), nI_le hy1 (by decide)⟩ h18
    · refine z_al0 (pc' := 22) 11 rfl rfl ?_
      refine z_il1 (pc' := 23) 12 rfl rfl ?_
      refine z_callV1 (pc' := 26) 13 rfl rfl k_Wb_295 (by first | exact pth_A (by omega) | assumption | exact zu_s | (rw [zu_n (by decide)]; assumption) | (rw [zu_n (by omega)]; exact zu_s)) (c_Wb_heldOn (S := S) (sc := sc) (ch := ch) (σ := σ) (kp := kp) (ac := .null) (isCo_fr h1 (fun i hi => zu_n (by omega))) hi (isHe_fr hhe0 (fun i a b => zu_n (by omega))) zu_s hx1) (by decide) (by omega) (by omega) rfl rfl (Nat.le_of_ble_eq_true rfl) ?_
      rw [hl9]
      first | refine z_if_eqB (pc' := 29) 14 rfl rfl (tgt := 31) rfl (fun h26 => ?_) (fun h26 => ?_) | refine z_if_eqN (pc' := 29) 14 rfl rfl (tgt := 31) rfl (by omega) (fun h26 => ?_) (fun h26 => ?_) | refine z_if_eq (pc' := 29) 14 rfl rfl (tgt := 31) rfl (fun h26 => ?_) (fun h26 => ?_)
      · refine z_al0 (pc' := 32) 17 rfl rfl ?_
        refine z_al0 (pc' := 33) 18 rfl rfl ?_
        refine z_getf (pc' := 36) 19 rfl rfl f_Wb_60_11 (by first | exact pth_A (by omega) | assumption | exact zu_s | (rw [zu_n (by decide)]; assumption) | (rw [zu_n (by omega)]; exact zu_s)) (by rfl) ?_
        refine z_il1 (pc' := 37) 20 rfl rfl ?_
        refine z_iald (pc' := 38) 21 rfl rfl (by first | exact pth_A (by omega) | assumption | exact zu_s | (rw [zu_n (by decide)]; assumption) | (rw [zu_n (by omega)]; exact zu_s)) (by omega) (by decide) ?_
        rw [(hH x1).2.1 hl0, eg]
        refine z_callV1 (pc' := 41) 22 rfl rfl k_Wb_305 (by first | exact pth_A (by omega) | assumption | exact zu_s | (rw [zu_n (by decide)]; assumption) | (rw [zu_n (by omega)]; exact zu_s)) (c_Wb_thingOf (isCo_fr h1 (fun i hi => zu_n (by omega))) hi (kp := kp) (ac := .null) zu_s hn (g := g1) (by omega)) (by decide) (by omega) (by omega) rfl rfl (Nat.le_of_ble_eq_true rfl) ?_
        rw [hk9, show ciK 2 = 1 from rfl]
        refine z_as4 rfl rfl (pc' := 43) 23 rfl rfl ?_
        refine z_al0 (pc' := 44) 24 rfl rfl ?_
        refine z_al4 (pc' := 46) 25 rfl rfl ?_
        refine z_putf (pc' := 49) 26 rfl rfl f_Wb_301_11 (by first | exact pth_A (by omega) | assumption | exact zu_s | (rw [zu_n (by decide)]; assumption) | (rw [zu_n (by omega)]; exact zu_s)) rfl rfl (by rfl) (by rfl) ?_
        dsimp only [List.set]
        rw [zu_sw (a := n) (b := 4) (by omega), zu_zu]
        refine z_mu (show _ = pth (zu μ 4 (.inr (11, [.ref 5, .ref 24, .int kp, .ref 43, .ref 47, .ref 51, .ref 56, .ref 81, .ref 82, .ref 83, .ref 84, .ref 85, .ref 86, .ref 87, (.ref n)]))) n 1 g1 (S 3 g1) (0, false, tr) from (zu_id (by rw [zu_n (by omega), zu_n (by decide)]; exact h87)).symm) ?_
        refine z_il2 (pc' := 50) 27 rfl rfl ?_
        first | refine z_swN (by omega) 0 (by decide) (fun h50_0 => ?_) (fun h50_0 => ?_) | refine z_sw 0 (fun h50_0 => ?_) (fun h50_0 => ?_)
        · refine z_tableIn 28 rfl (by decide) (by decide) (off := 26) rfl (tgt := 76) rfl ?_
          refine z_al4 (pc' := 78) 29 rfl rfl ?_
          refine z_il3 (pc' := 79) 30 rfl rfl ?_
          refine z_callU1 (pc' := 82) 31 rfl rfl k_Wb_309_1 (by first | exact pth_A (by omega) | assumption | exact zu_s | (rw [zu_n (by decide)]; assumption) | (rw [zu_n (by omega)]; exact zu_s)) (c_Gi_sails_1 (st := (0, false, tr)) (by omega) (by omega) hw9 (Nat.zero_le _)) (by decide) (by omega) (by omega) rfl rfl (Nat.le_of_ble_eq_true rfl) ?_
          refine z_is5 rfl rfl (pc' := 84) 32 rfl rfl ?_
          refine z_goto 33 rfl (tgt := 117) rfl ?_
          subst h50_0
          rw [show (saP g1 v (0, false, tr)) = acK 0 2 g1 (S 3 g1) v (0, false, tr) from rfl]
          have hA9 := hA 0
          generalize acK 0 2 g1 (S 3 g1) v (0, false, tr) = R at *
          refine z_al4 (pc' := 119) 48 rfl rfl ?_
          refine z_getf (pc' := 122) 49 rfl rfl f_Wb_323_1 (by exact pth_A (by omega)) (by rfl) ?_
          first | refine z_if_eqB (pc' := 125) 50 rfl rfl (tgt := 130) rfl (fun h122 => ?_) (fun h122 => ?_) | refine z_if_eqN (pc' := 125) 50 rfl rfl (tgt := 130) rfl (by omega) (fun h122 => ?_) (fun h122 => ?_) | refine z_if_eq (pc' := 125) 50 rfl rfl (tgt := 130) rfl (fun h122 => ?_) (fun h122 => ?_)
          · refine z_il5 (pc' := 132) 53 rfl rfl ?_
            exact z_ireturn 54 rfl rfl (by first | rfl | exact zbo_nar) rfl rfl (by exact ⟨by rw [acA, if_neg h122], rfl⟩)
          · refine z_bipush (v := (-15)) (by decide) (pc' := 127) 51 rfl rfl ?_
            refine z_goto 52 rfl (tgt := 132) rfl ?_
            exact z_ireturn 54 rfl rfl (by first | rfl | exact zbo_nar) rfl rfl (by exact ⟨by rw [acA, if_pos h122], rfl⟩)
        first | refine z_swN (by omega) 1 (by decide) (fun h50_1 => ?_) (fun h50_1 => ?_) | refine z_sw 1 (fun h50_1 => ?_) (fun h50_1 => ?_)
        · refine z_tableIn 28 rfl (by decide) (by decide) (off := 37) rfl (tgt := 87) rfl ?_
          refine z_al4 (pc' := 89) 34 rfl rfl ?_
          refine z_il3 (pc' := 90) 35 rfl rfl ?_
          refine z_callU1 (pc' := 93) 36 rfl rfl k_Wb_314_1 (by first | exact pth_A (by omega) | assumption | exact zu_s | (rw [zu_n (by decide)]; assumption) | (rw [zu_n (by omega)]; exact zu_s)) (c_Br_calls_1 (st := (0, false, tr)) (by omega) (by omega) hw9 (Nat.zero_le _)) (by decide) (by omega) (by omega) rfl rfl (Nat.le_of_ble_eq_true rfl) ?_
          refine z_is5 rfl rfl (pc' := 95) 37 rfl rfl ?_
          refine z_goto 38 rfl (tgt := 117) rfl ?_
          subst h50_1
          rw [show (caK 2 g1 (S 3 g1) v (0, false, tr)) = acK 1 2 g1 (S 3 g1) v (0, false, tr) from rfl]
          have hA9 := hA 1
          generalize acK 1 2 g1 (S 3 g1) v (0, false, tr) = R at *
          refine z_al4 (pc' := 119) 48 rfl rfl ?_
          refine z_getf (pc' := 122) 49 rfl rfl f_Wb_323_1 (by exact pth_A (by omega)) (by rfl) ?_
          first | refine z_if_eqB (pc' := 125) 50 rfl rfl (tgt := 130) rfl (fun h122 => ?_) (fun h122 => ?_) | refine z_if_eqN (pc' := 125) 50 rfl rfl (tgt := 130) rfl (by omega) (fun h122 => ?_) (fun h122 => ?_) | refine z_if_eq (pc' := 125) 50 rfl rfl (tgt := 130) rfl (fun h122 => ?_) (fun h122 => ?_)
          · refine z_il5 (pc' := 132) 53 rfl rfl ?_
            exact z_ireturn 54 rfl rfl (by first | rfl | exact zbo_nar) rfl rfl (by exact ⟨by rw [acA, if_neg h122], rfl⟩)
          · refine z_bipush (v := (-15)) (by decide) (pc' := 127) 51 rfl rfl ?_
            refine z_goto 52 rfl (tgt := 132) rfl ?_
            exact z_ireturn 54 rfl rfl (by first | rfl | exact zbo_nar) rfl rfl (by exact ⟨by rw [acA, if_pos h122], rfl⟩)
        first | refine z_swN (by omega) 2 (by decide) (fun h50_2 => ?_) (fun h50_2 => ?_) | refine z_sw 2 (fun h50_2 => ?_) (fun h50_2 => ?_)
        · refine z_tableIn 28 rfl (by decide) (by decide) (off := 48) rfl (tgt := 98) rfl ?_
          refine z_al4 (pc' := 100) 39 rfl rfl ?_
          refine z_il3 (pc' := 101) 40 rfl rfl ?_
          refine z_callU1 (pc' := 104) 41 rfl rfl k_Wb_317_1 (by first | exact pth_A (by omega) | assumption | exact zu_s | (rw [zu_n (by decide)]; assumption) | (rw [zu_n (by omega)]; exact zu_s)) (c_Gi_shares_1 (st := (0, false, tr)) (by omega) (by omega) hw9 (Nat.zero_le _)) (by decide) (by omega) (by omega) rfl rfl (Nat.le_of_ble_eq_true rfl) ?_
          refine z_is5 rfl rfl (pc' := 106) 42 rfl rfl ?_
          refine z_goto 43 rfl (tgt := 117) rfl ?_
          subst h50_2
          rw [show (shP g1 (S 3 g1) v (0, false, tr)) = acK 2 2 g1 (S 3 g1) v (0, false, tr) from rfl]
          have hA9 := hA 2
          generalize acK 2 2 g1 (S 3 g1) v (0, false, tr) = R at *
          refine z_al4 (pc' := 119) 48 rfl rfl ?_
          refine z_getf (pc' := 122) 49 rfl rfl f_Wb_323_1 (by exact pth_A (by omega)) (by rfl) ?_
          first | refine z_if_eqB (pc' := 125) 50 rfl rfl (tgt := 130) rfl (fun h122 => ?_) (fun h122 => ?_) | refine z_if_eqN (pc' := 125) 50 rfl rfl (tgt := 130) rfl (by omega) (fun h122 => ?_) (fun h122 => ?_) | refine z_if_eq (pc' := 125) 50 rfl rfl (tgt := 130) rfl (fun h122 => ?_) (fun h122 => ?_)
          · refine z_il5 (pc' := 132) 53 rfl rfl ?_
            exact z_ireturn 54 rfl rfl (by first | rfl | exact zbo_nar) rfl rfl (by exact ⟨by rw [acA, if_neg h122], rfl⟩)
          · refine z_bipush (v := (-15)) (by decide) (pc' := 127) 51 rfl rfl ?_
            refine z_goto 52 rfl (tgt := 132) rfl ?_
            exact z_ireturn 54 rfl rfl (by first | rfl | exact zbo_nar) rfl rfl (by exact ⟨by rw [acA, if_pos h122], rfl⟩)
        refine z_tableOut 28 rfl (by first | (rw [nI_toInt (by omega)]; omega) | (have e0 := z_ne (by decide) h50_0; have e1 := z_ne (by decide) h50_1; have e2 := z_ne (by decide) h50_2; omega)) (tgt := 109) rfl ?_
        refine z_al4 (pc' := 111) 44 rfl rfl ?_
        refine z_il3 (pc' := 112) 45 rfl rfl ?_
        refine z_callU1 (pc' := 115) 46 rfl rfl k_Wb_320_1 (by first | exact pth_A (by omega) | assumption | exact zu_s | (rw [zu_n (by decide)]; assumption) | (rw [zu_n (by omega)]; exact zu_s)) (c_Gi_weds_1 (st := (0, false, tr)) (by omega) (by omega) hw9 (Nat.zero_le _)) (by decide) (by omega) (by omega) rfl rfl (Nat.le_of_ble_eq_true rfl) ?_
        refine z_is5 rfl rfl (pc' := 117) 47 rfl rfl ?_
        obtain rfl : y1 = 3 := by omega
        rw [show (weP 2 g1 (S 3 g1) v (0, false, tr)) = acK 3 2 g1 (S 3 g1) v (0, false, tr) from rfl]
        have hA9 := hA 3
        generalize acK 3 2 g1 (S 3 g1) v (0, false, tr) = R at *
        refine z_al4 (pc' := 119) 48 rfl rfl ?_
        refine z_getf (pc' := 122) 49 rfl rfl f_Wb_323_1 (by exact pth_A (by omega)) (by rfl) ?_
        first | refine z_if_eqB (pc' := 125) 50 rfl rfl (tgt := 130) rfl (fun h122 => ?_) (fun h122 => ?_) | refine z_if_eqN (pc' := 125) 50 rfl rfl (tgt := 130) rfl (by omega) (fun h122 => ?_) (fun h122 => ?_) | refine z_if_eq (pc' := 125) 50 rfl rfl (tgt := 130) rfl (fun h122 => ?_) (fun h122 => ?_)
        · refine z_il5 (pc' := 132) 53 rfl rfl ?_
          exact z_ireturn 54 rfl rfl (by first | rfl | exact zbo_nar) rfl rfl (by exact ⟨by rw [acA, if_neg h122], rfl⟩)
        · refine z_bipush (v := (-15)) (by decide) (pc' := 127) 51 rfl rfl ?_
          refine z_goto 52 rfl (tgt := 132) rfl ?_
          exact z_ireturn 54 rfl rfl (by first | rfl | exact zbo_nar) rfl rfl (by exact ⟨by rw [acA, if_pos h122], rfl⟩)
      · first | exact absurd h26 (by decide) | (exfalso; omega) | exact absurd ⟨nI_le (Nat.zero_le _) (by omega), nI_le hx1 (by decide)⟩ h9 | exact absurd ⟨nI_le (Nat.zero_le _) (by omega), nI_le hy1 (by decide)⟩ h18
set_option maxHeartbeats 4000000 in
set_option maxRecDepth 100000 in
theorem c_Wb_act1_3 {G : zG} {n u : Nat} {μ : Nat → va_E} {κ : zκ} {σ : zσ} {kp : Int32} {ac : Value} {tr : Nat → Int32} (h : cst μ κ) (hhe : isHe μ σ) (hob : isOb μ kp ac) (h87 : μ 87 = .inl (0, 30, .inl tr)) (hn : 106 ≤ n) (v : Int32) {x1 y1 g1 : Nat} (hx1 : x1 ≤ 3) (hy1 : y1 ≤ 3) (hg1 : g1 < κ.1 0 0) (eg : (σ x1).2.1 = nI g1) (hl0 : (σ x1).1 = 0) (ek : κ.1 1 g1 = 3) : zMet G 8 M_Wb_act [.ref 4, .int (nI x1), .int (nI y1), .int v] n u μ (n + 1) (u + 5) (fun r μ' => r = some (.int (acA (acK y1 3 g1 (κ.1 3 g1) v (0, false, tr)))) ∧ μ' = pth (zu μ 4 (.inr (11, [.ref 5, .ref 24, .int kp, .ref 43, .ref 47, .ref 51, .ref 56, .ref 81, .ref 82, .ref 83, .ref 84, .ref 85, .ref 86, .ref 87, (.ref n)]))) n 10 g1 (κ.1 3 g1) (acK y1 3 g1 (κ.1 3 g1) v (0, false, tr)).2) := by
  obtain ⟨S, mo, pr, fa, sc, ch, rc, D⟩ := κ
  obtain ⟨h1, -, -, -, hk5⟩ := h
  have hi := hk5.1
  have hi0 := hi.1
  have hhe0 := hhe
  obtain ⟨nu, ss, h84, h85, h86, hH⟩ := hhe
  have hob0 := hob
  unfold isOb at hob
  have hg1 : g1 < S 0 0 := hg1
  have hk9 : S 1 g1 = 3 := ek
  have hw9 : S 3 g1 ≤ 9 := (hi.2.2.2.2.2 g1).2.2.1
  have hl9 : hld S σ x1 = 0 := by rw [hld, if_neg (fun z => z.2 (by rw [eg]; exact ⟨nI_pos' (by omega), nI_lt hg1 (by omega)⟩))]; exact hl0
  have hA := fun (y : Nat) => iA_ac (y := y) (k := 3) (g := g1) (w := S 3 g1) (x := v) (st := (0, false, tr)) (Nat.zero_le _)
  refine z_start (lv := [.ref 4, .int (nI x1), .int (nI y1), .int v, .retAddr 0, .retAddr 0]) K_Wb_act rfl rfl (by omega) (by omega) (Nat.le_of_ble_eq_true rfl) rfl ?_
  refine z_al0 (pc' := 1) 0 rfl rfl ?_
  refine z_aconst_null (pc' := 2) 1 rfl rfl ?_
  refine z_putf (pc' := 5) 2 rfl rfl f_Wb_301_11 (by first | exact pth_A (by omega) | assumption | exact zu_s | (rw [zu_n (by decide)]; assumption) | (rw [zu_n (by omega)]; exact zu_s)) rfl rfl (by rfl) (by rfl) ?_
  dsimp only [List.set]
  refine z_il1 (pc' := 6) 3 rfl rfl ?_
  refine z_callS1 (pc' := 9) 4 rfl rfl k_Wb_288 (c_Wb_isShelf _) (by decide) (by omega) (by omega) rfl rfl (Nat.le_of_ble_eq_true rfl) ?_
  first | refine z_if_eqB (pc' := 12) 5 rfl rfl (tgt := 29) rfl (fun h9 => ?_) (fun h9 => ?_) | refine z_if_eqN (pc' := 12) 5 rfl rfl (tgt := 29) rfl (by omega) (fun h9 => ?_) (fun h9 => ?_) | refine z_if_eq (pc' := 12) 5 rfl rfl (tgt := 29) rfl (fun h9 => ?_) (fun h9 => ?_)
  · first | exact absurd h26 (by decide) | (exfalso; omega) | exact absurd ⟨nI_le (Nat.zero_le _) (by omega), nI_le hx1 (by decide)⟩ h9 | exact absurd ⟨nI_le (Nat.zero_le _) (by omega), nI_le hy1 (by decide)⟩ h18
  · refine z_il2 (pc' := 13) 6 rfl rfl ?_
    refine z_iconst (v := nI 0) (by decide) (pc' := 14) 7 rfl rfl ?_
    refine z_iconst (v := nI 3) (by decide) (pc' := 15) 8 rfl rfl ?_
    refine z_callS1 (pc' := 18) 9 rfl rfl k_Wb_72 (c_Wb_within _ _ _) (by decide) (by omega) (by omega) rfl rfl (Nat.le_of_ble_eq_true rfl) ?_
    first | refine z_if_eqB (pc' := 21) 10 rfl rfl (tgt := 29) rfl (fun h18 => ?_) (fun h18 => ?_) | refine z_if_eqN (pc' := 21) 10 rfl rfl (tgt := 29) rfl (by omega) (fun h18 => ?_) (fun h18 => ?_) | refine z_if_eq (pc' := 21) 10 rfl rfl (tgt := 29) rfl (fun h18 => ?_) (fun h18 => ?_)
    · first | exact absurd h26 (by decide) | (exfalso; omega) | exact absurd ⟨nI_le (Nat.zero_le _) (by omega), nI_le hx1 (by decide)⟩ h9 | exact absurd ⟨nI_le (Nat.zero_le _) (by omega), nI_le hy1 (by decide)⟩ h18
    · refine z_al0 (pc' := 22) 11 rfl rfl ?_
      refine z_il1 (pc' := 23) 12 rfl rfl ?_
      refine z_callV1 (pc' := 26) 13 rfl rfl k_Wb_295 (by first | exact pth_A (by omega) | assumption | exact zu_s | (rw [zu_n (by decide)]; assumption) | (rw [zu_n (by omega)]; exact zu_s)) (c_Wb_heldOn (S := S) (sc := sc) (ch := ch) (σ := σ) (kp := kp) (ac := .null) (isCo_fr h1 (fun i hi => zu_n (by omega))) hi (isHe_fr hhe0 (fun i a b => zu_n (by omega))) zu_s hx1) (by decide) (by omega) (by omega) rfl rfl (Nat.le_of_ble_eq_true rfl) ?_
      rw [hl9]
      first | refine z_if_eqB (pc' := 29) 14 rfl rfl (tgt := 31) rfl (fun h26 => ?_) (fun h26 => ?_) | refine z_if_eqN (pc' := 29) 14 rfl rfl (tgt := 31) rfl (by omega) (fun h26 => ?_) (fun h26 => ?_) | refine z_if_eq (pc' := 29) 14 rfl rfl (tgt := 31) rfl (fun h26 => ?_) (fun h26 => ?_)
      · refine z_al0 (pc' := 32) 17 rfl rfl ?_
        refine z_al0 (pc' := 33) 18 rfl rfl ?_
        refine z_getf (pc' := 36) 19 rfl rfl f_Wb_60_11 (by first | exact pth_A (by omega) | assumption | exact zu_s | (rw [zu_n (by decide)]; assumption) | (rw [zu_n (by omega)]; exact zu_s)) (by rfl) ?_
        refine z_il1 (pc' := 37) 20 rfl rfl ?_
        refine z_iald (pc' := 38) 21 rfl rfl (by first | exact pth_A (by omega) | assumption | exact zu_s | (rw [zu_n (by decide)]; assumption) | (rw [zu_n (by omega)]; exact zu_s)) (by omega) (by decide) ?_
        rw [(hH x1).2.1 hl0, eg]
        refine z_callV1 (pc' := 41) 22 rfl rfl k_Wb_305 (by first | exact pth_A (by omega) | assumption | exact zu_s | (rw [zu_n (by decide)]; assumption) | (rw [zu_n (by omega)]; exact zu_s)) (c_Wb_thingOf (isCo_fr h1 (fun i hi => zu_n (by omega))) hi (kp := kp) (ac := .null) zu_s hn (g := g1) (by omega)) (by decide) (by omega) (by omega) rfl rfl (Nat.le_of_ble_eq_true rfl) ?_
        rw [hk9, show ciK 3 = 10 from rfl]
        refine z_as4 rfl rfl (pc' := 43) 23 rfl rfl ?_
        refine z_al0 (pc' := 44) 24 rfl rfl ?_
        refine z_al4 (pc' := 46) 25 rfl rfl ?_
        refine z_putf (pc' := 49) 26 rfl rfl f_Wb_301_11 (by first | exact pth_A (by omega) | assumption | exact zu_s | (rw [zu_n (by decide)]; assumption) | (rw [zu_n (by omega)]; exact zu_s)) rfl rfl (by rfl) (by rfl) ?_
        dsimp only [List.set]
        rw [zu_sw (a := n) (b := 4) (by omega), zu_zu]
        refine z_mu (show _ = pth (zu μ 4 (.inr (11, [.ref 5, .ref 24, .int kp, .ref 43, .ref 47, .ref 51, .ref 56, .ref 81, .ref 82, .ref 83, .ref 84, .ref 85, .ref 86, .ref 87, (.ref n)]))) n 10 g1 (S 3 g1) (0, false, tr) from (zu_id (by rw [zu_n (by omega), zu_n (by decide)]; exact h87)).symm) ?_
        refine z_il2 (pc' := 50) 27 rfl rfl ?_
        first | refine z_swN (by omega) 0 (by decide) (fun h50_0 => ?_) (fun h50_0 => ?_) | refine z_sw 0 (fun h50_0 => ?_) (fun h50_0 => ?_)
        · refine z_tableIn 28 rfl (by decide) (by decide) (off := 26) rfl (tgt := 76) rfl ?_
          refine z_al4 (pc' := 78) 29 rfl rfl ?_
          refine z_il3 (pc' := 79) 30 rfl rfl ?_
          refine z_callU1 (pc' := 82) 31 rfl rfl k_Wb_309_10 (by first | exact pth_A (by omega) | assumption | exact zu_s | (rw [zu_n (by decide)]; assumption) | (rw [zu_n (by omega)]; exact zu_s)) (c_Tw_sails_10 (st := (0, false, tr)) (by omega) (by omega) hw9 (Nat.zero_le _)) (by decide) (by omega) (by omega) rfl rfl (Nat.le_of_ble_eq_true rfl) ?_
          refine z_is5 rfl rfl (pc' := 84) 32 rfl rfl ?_
          refine z_goto 33 rfl (tgt := 117) rfl ?_
          subst h50_0
          rw [show (saK 3 g1 v (0, false, tr)) = acK 0 3 g1 (S 3 g1) v (0, false, tr) from rfl]
          have hA9 := hA 0
          generalize acK 0 3 g1 (S 3 g1) v (0, false, tr) = R at *
          refine z_al4 (pc' := 119) 48 rfl rfl ?_
          refine z_getf (pc' := 122) 49 rfl rfl f_Wb_323_10 (by exact pth_A (by omega)) (by rfl) ?_
          first | refine z_if_eqB (pc' := 125) 50 rfl rfl (tgt := 130) rfl (fun h122 => ?_) (fun h122 => ?_) | refine z_if_eqN (pc' := 125) 50 rfl rfl (tgt := 130) rfl (by omega) (fun h122 => ?_) (fun h122 => ?_) | refine z_if_eq (pc' := 125) 50 rfl rfl (tgt := 130) rfl (fun h122 => ?_) (fun h122 => ?_)
          · refine z_il5 (pc' := 132) 53 rfl rfl ?_
            exact z_ireturn 54 rfl rfl (by first | rfl | exact zbo_nar) rfl rfl (by exact ⟨by rw [acA, if_neg h122], rfl⟩)
          · refine z_bipush (v := (-15)) (by decide) (pc' := 127) 51 rfl rfl ?_
            refine z_goto 52 rfl (tgt := 132) rfl ?_
            exact z_ireturn 54 rfl rfl (by first | rfl | exact zbo_nar) rfl rfl (by exact ⟨by rw [acA, if_pos h122], rfl⟩)
        first | refine z_swN (by omega) 1 (by decide) (fun h50_1 => ?_) (fun h50_1 => ?_) | refine z_sw 1 (fun h50_1 => ?_) (fun h50_1 => ?_)
        · refine z_tableIn 28 rfl (by decide) (by decide) (off := 37) rfl (tgt := 87) rfl ?_
          refine z_al4 (pc' := 89) 34 rfl rfl ?_
          refine z_il3 (pc' := 90) 35 rfl rfl ?_
          refine z_callU1 (pc' := 93) 36 rfl rfl k_Wb_314_10 (by first | exact pth_A (by omega) | assumption | exact zu_s | (rw [zu_n (by decide)]; assumption) | (rw [zu_n (by omega)]; exact zu_s)) (c_Br_calls_10 (st := (0, false, tr)) (by omega) (by omega) hw9 (Nat.zero_le _)) (by decide) (by omega) (by omega) rfl rfl (Nat.le_of_ble_eq_true rfl) ?_
          refine z_is5 rfl rfl (pc' := 95) 37 rfl rfl ?_
          refine z_goto 38 rfl (tgt := 117) rfl ?_
          subst h50_1
          rw [show (caK 3 g1 (S 3 g1) v (0, false, tr)) = acK 1 3 g1 (S 3 g1) v (0, false, tr) from rfl]
          have hA9 := hA 1
          generalize acK 1 3 g1 (S 3 g1) v (0, false, tr) = R at *
          refine z_al4 (pc' := 119) 48 rfl rfl ?_
          refine z_getf (pc' := 122) 49 rfl rfl f_Wb_323_10 (by exact pth_A (by omega)) (by rfl) ?_
          first | refine z_if_eqB (pc' := 125) 50 rfl rfl (tgt := 130) rfl (fun h122 => ?_) (fun h122 => ?_) | refine z_if_eqN (pc' := 125) 50 rfl rfl (tgt := 130) rfl (by omega) (fun h122 => ?_) (fun h122 => ?_) | refine z_if_eq (pc' := 125) 50 rfl rfl (tgt := 130) rfl (fun h122 => ?_) (fun h122 => ?_)
          · refine z_il5 (pc' := 132) 53 rfl rfl ?_
            exact z_ireturn 54 rfl rfl (by first | rfl | exact zbo_nar) rfl rfl (by exact ⟨by rw [acA, if_neg h122], rfl⟩)
          · refine z_bipush (v := (-15)) (by decide) (pc' := 127) 51 rfl rfl ?_
            refine z_goto 52 rfl (tgt := 132) rfl ?_
            exact z_ireturn 54 rfl rfl (by first | rfl | exact zbo_nar) rfl rfl (by exact ⟨by rw [acA, if_pos h122], rfl⟩)
        first | refine z_swN (by omega) 2 (by decide) (fun h50_2 => ?_) (fun h50_2 => ?_) | refine z_sw 2 (fun h50_2 => ?_) (fun h50_2 => ?_)
        · refine z_tableIn 28 rfl (by decide) (by decide) (off := 48) rfl (tgt := 98) rfl ?_
          refine z_al4 (pc' := 100) 39 rfl rfl ?_
          refine z_il3 (pc' := 101) 40 rfl rfl ?_
          refine z_callU1 (pc' := 104) 41 rfl rfl k_Wb_317_10 (by first | exact pth_A (by omega) | assumption | exact zu_s | (rw [zu_n (by decide)]; assumption) | (rw [zu_n (by omega)]; exact zu_s)) (c_Gi_shares_10 (st := (0, false, tr)) (by omega) (by omega) hw9 (Nat.zero_le _)) (by decide) (by omega) (by omega) rfl rfl (Nat.le_of_ble_eq_true rfl) ?_
          refine z_is5 rfl rfl (pc' := 106) 42 rfl rfl ?_
          refine z_goto 43 rfl (tgt := 117) rfl ?_
          subst h50_2
          rw [show (shP g1 (S 3 g1) v (0, false, tr)) = acK 2 3 g1 (S 3 g1) v (0, false, tr) from rfl]
          have hA9 := hA 2
          generalize acK 2 3 g1 (S 3 g1) v (0, false, tr) = R at *
          refine z_al4 (pc' := 119) 48 rfl rfl ?_
          refine z_getf (pc' := 122) 49 rfl rfl f_Wb_323_10 (by exact pth_A (by omega)) (by rfl) ?_
          first | refine z_if_eqB (pc' := 125) 50 rfl rfl (tgt := 130) rfl (fun h122 => ?_) (fun h122 => ?_) | refine z_if_eqN (pc' := 125) 50 rfl rfl (tgt := 130) rfl (by omega) (fun h122 => ?_) (fun h122 => ?_) | refine z_if_eq (pc' := 125) 50 rfl rfl (tgt := 130) rfl (fun h122 => ?_) (fun h122 => ?_)
          · refine z_il5 (pc' := 132) 53 rfl rfl ?_
            exact z_ireturn 54 rfl rfl (by first | rfl | exact zbo_nar) rfl rfl (by exact ⟨by rw [acA, if_neg h122], rfl⟩)
          · refine z_bipush (v := (-15)) (by decide) (pc' := 127) 51 rfl rfl ?_
            refine z_goto 52 rfl (tgt := 132) rfl ?_
            exact z_ireturn 54 rfl rfl (by first | rfl | exact zbo_nar) rfl rfl (by exact ⟨by rw [acA, if_pos h122], rfl⟩)
        refine z_tableOut 28 rfl (by first | (rw [nI_toInt (by omega)]; omega) | (have e0 := z_ne (by decide) h50_0; have e1 := z_ne (by decide) h50_1; have e2 := z_ne (by decide) h50_2; omega)) (tgt := 109) rfl ?_
        refine z_al4 (pc' := 111) 44 rfl rfl ?_
        refine z_il3 (pc' := 112) 45 rfl rfl ?_
        refine z_callU1 (pc' := 115) 46 rfl rfl k_Wb_320_10 (by first | exact pth_A (by omega) | assumption | exact zu_s | (rw [zu_n (by decide)]; assumption) | (rw [zu_n (by omega)]; exact zu_s)) (c_Tw_weds_10 (st := (0, false, tr)) (by omega) (by omega) hw9 (Nat.zero_le _)) (by decide) (by omega) (by omega) rfl rfl (Nat.le_of_ble_eq_true rfl) ?_
        refine z_is5 rfl rfl (pc' := 117) 47 rfl rfl ?_
        obtain rfl : y1 = 3 := by omega
        rw [show (weK 3 g1 (S 3 g1) v (0, false, tr)) = acK 3 3 g1 (S 3 g1) v (0, false, tr) from rfl]
        have hA9 := hA 3
        generalize acK 3 3 g1 (S 3 g1) v (0, false, tr) = R at *
        refine z_al4 (pc' := 119) 48 rfl rfl ?_
        refine z_getf (pc' := 122) 49 rfl rfl f_Wb_323_10 (by exact pth_A (by omega)) (by rfl) ?_
        first | refine z_if_eqB (pc' := 125) 50 rfl rfl (tgt := 130) rfl (fun h122 => ?_) (fun h122 => ?_) | refine z_if_eqN (pc' := 125) 50 rfl rfl (tgt := 130) rfl (by omega) (fun h122 => ?_) (fun h122 => ?_) | refine z_if_eq (pc' := 125) 50 rfl rfl (tgt := 130) rfl (fun h122 => ?_) (fun h122 => ?_)
        · refine z_il5 (pc' := 132) 53 rfl rfl ?_
          exact z_ireturn 54 rfl rfl (by first | rfl | exact zbo_nar) rfl rfl (by exact ⟨by rw [acA, if_neg h122], rfl⟩)
        · refine z_bipush (v := (-15)) (by decide) (pc' := 127) 51 rfl rfl ?_
          refine z_goto 52 rfl (tgt := 132) rfl ?_
          exact z_ireturn 54 rfl rfl (by first | rfl | exact zbo_nar) rfl rfl (by exact ⟨by rw [acA, if_pos h122], rfl⟩)
      · first | exact absurd h26 (by decide) | (exfalso; omega) | exact absurd ⟨nI_le (Nat.zero_le _) (by omega), nI_le hx1 (by decide)⟩ h9 | exact absurd ⟨nI_le (Nat.zero_le _) (by omega), nI_le hy1 (by decide)⟩ h18
set_option maxHeartbeats 4000000 in
set_option maxRecDepth 100000 in
theorem c_Wb_act1_4 {G : zG} {n u : Nat} {μ : Nat → va_E} {κ : zκ} {σ : zσ} {kp : Int32} {ac : Value} {tr : Nat → Int32} (h : cst μ κ) (hhe : isHe μ σ) (hob : isOb μ kp ac) (h87 : μ 87 = .inl (0, 30, .inl tr)) (hn : 106 ≤ n) (v : Int32) {x1 y1 g1 : Nat} (hx1 : x1 ≤ 3) (hy1 : y1 ≤ 3) (hg1 : g1 < κ.1 0 0) (eg : (σ x1).2.1 = nI g1) (hl0 : (σ x1).1 = 0) (ek : κ.1 1 g1 = 4) : zMet G 8 M_Wb_act [.ref 4, .int (nI x1), .int (nI y1), .int v] n u μ (n + 1) (u + 5) (fun r μ' => r = some (.int (acA (acK y1 4 g1 (κ.1 3 g1) v (0, false, tr)))) ∧ μ' = pth (zu μ 4 (.inr (11, [.ref 5, .ref 24, .int kp, .ref 43, .ref 47, .ref 51, .ref 56, .ref 81, .ref 82, .ref 83, .ref 84, .ref 85, .ref 86, .ref 87, (.ref n)]))) n 6 g1 (κ.1 3 g1) (acK y1 4 g1 (κ.1 3 g1) v (0, false, tr)).2) := by
  obtain ⟨S, mo, pr, fa, sc, ch, rc, D⟩ := κ
  obtain ⟨h1, -, -, -, hk5⟩ := h
  have hi := hk5.1
  have hi0 := hi.1
  have hhe0 := hhe
  obtain ⟨nu, ss, h84, h85, h86, hH⟩ := hhe
  have hob0 := hob
  unfold isOb at hob
  have hg1 : g1 < S 0 0 := hg1
  have hk9 : S 1 g1 = 4 := ek
  have hw9 : S 3 g1 ≤ 9 := (hi.2.2.2.2.2 g1).2.2.1
  have hl9 : hld S σ x1 = 0 := by rw [hld, if_neg (fun z => z.2 (by rw [eg]; exact ⟨nI_pos' (by omega), nI_lt hg1 (by omega)⟩))]; exact hl0
  have hA := fun (y : Nat) => iA_ac (y := y) (k := 4) (g := g1) (w := S 3 g1) (x := v) (st := (0, false, tr)) (Nat.zero_le _)
  refine z_start (lv := [.ref 4, .int (nI x1), .int (nI y1), .int v, .retAddr 0, .retAddr 0]) K_Wb_act rfl rfl (by omega) (by omega) (Nat.le_of_ble_eq_true rfl) rfl ?_
  refine z_al0 (pc' := 1) 0 rfl rfl ?_
  refine z_aconst_null (pc' := 2) 1 rfl rfl ?_
  refine z_putf (pc' := 5) 2 rfl rfl f_Wb_301_11 (by first | exact pth_A (by omega) | assumption | exact zu_s | (rw [zu_n (by decide)]; assumption) | (rw [zu_n (by omega)]; exact zu_s)) rfl rfl (by rfl) (by rfl) ?_
  dsimp only [List.set]
  refine z_il1 (pc' := 6) 3 rfl rfl ?_
  refine z_callS1 (pc' := 9) 4 rfl rfl k_Wb_288 (c_Wb_isShelf _) (by decide) (by omega) (by omega) rfl rfl (Nat.le_of_ble_eq_true rfl) ?_
  first | refine z_if_eqB (pc' := 12) 5 rfl rfl (tgt := 29) rfl (fun h9 => ?_) (fun h9 => ?_) | refine z_if_eqN (pc' := 12) 5 rfl rfl (tgt := 29) rfl (by omega) (fun h9 => ?_) (fun h9 => ?_) | refine z_if_eq (pc' := 12) 5 rfl rfl (tgt := 29) rfl (fun h9 => ?_) (fun h9 => ?_)
  · first | exact absurd h26 (by decide) | (exfalso; omega) | exact absurd ⟨nI_le (Nat.zero_le _) (by omega), nI_le hx1 (by decide)⟩ h9 | exact absurd ⟨nI_le (Nat.zero_le _) (by omega), nI_le hy1 (by decide)⟩ h18
  · refine z_il2 (pc' := 13) 6 rfl rfl ?_
    refine z_iconst (v := nI 0) (by decide) (pc' := 14) 7 rfl rfl ?_
    refine z_iconst (v := nI 3) (by decide) (pc' := 15) 8 rfl rfl ?_
    refine z_callS1 (pc' := 18) 9 rfl rfl k_Wb_72 (c_Wb_within _ _ _) (by decide) (by omega) (by omega) rfl rfl (Nat.le_of_ble_eq_true rfl) ?_
    first | refine z_if_eqB (pc' := 21) 10 rfl rfl (tgt := 29) rfl (fun h18 => ?_) (fun h18 => ?_) | refine z_if_eqN (pc' := 21) 10 rfl rfl (tgt := 29) rfl (by omega) (fun h18 => ?_) (fun h18 => ?_) | refine z_if_eq (pc' := 21) 10 rfl rfl (tgt := 29) rfl (fun h18 => ?_) (fun h18 => ?_)
    · first | exact absurd h26 (by decide) | (exfalso; omega) | exact absurd ⟨nI_le (Nat.zero_le _) (by omega), nI_le hx1 (by decide)⟩ h9 | exact absurd ⟨nI_le (Nat.zero_le _) (by omega), nI_le hy1 (by decide)⟩ h18
    · refine z_al0 (pc' := 22) 11 rfl rfl ?_
      refine z_il1 (pc' := 23) 12 rfl rfl ?_
      refine z_callV1 (pc' := 26) 13 rfl rfl k_Wb_295 (by first | exact pth_A (by omega) | assumption | exact zu_s | (rw [zu_n (by decide)]; assumption) | (rw [zu_n (by omega)]; exact zu_s)) (c_Wb_heldOn (S := S) (sc := sc) (ch := ch) (σ := σ) (kp := kp) (ac := .null) (isCo_fr h1 (fun i hi => zu_n (by omega))) hi (isHe_fr hhe0 (fun i a b => zu_n (by omega))) zu_s hx1) (by decide) (by omega) (by omega) rfl rfl (Nat.le_of_ble_eq_true rfl) ?_
      rw [hl9]
      first | refine z_if_eqB (pc' := 29) 14 rfl rfl (tgt := 31) rfl (fun h26 => ?_) (fun h26 => ?_) | refine z_if_eqN (pc' := 29) 14 rfl rfl (tgt := 31) rfl (by omega) (fun h26 => ?_) (fun h26 => ?_) | refine z_if_eq (pc' := 29) 14 rfl rfl (tgt := 31) rfl (fun h26 => ?_) (fun h26 => ?_)
      · refine z_al0 (pc' := 32) 17 rfl rfl ?_
        refine z_al0 (pc' := 33) 18 rfl rfl ?_
        refine z_getf (pc' := 36) 19 rfl rfl f_Wb_60_11 (by first | exact pth_A (by omega) | assumption | exact zu_s | (rw [zu_n (by decide)]; assumption) | (rw [zu_n (by omega)]; exact zu_s)) (by rfl) ?_
        refine z_il1 (pc' := 37) 20 rfl rfl ?_
        refine z_iald (pc' := 38) 21 rfl rfl (by first | exact pth_A (by omega) | assumption | exact zu_s | (rw [zu_n (by decide)]; assumption) | (rw [zu_n (by omega)]; exact zu_s)) (by omega) (by decide) ?_
        rw [(hH x1).2.1 hl0, eg]
        refine z_callV1 (pc' := 41) 22 rfl rfl k_Wb_305 (by first | exact pth_A (by omega) | assumption | exact zu_s | (rw [zu_n (by decide)]; assumption) | (rw [zu_n (by omega)]; exact zu_s)) (c_Wb_thingOf (isCo_fr h1 (fun i hi => zu_n (by omega))) hi (kp := kp) (ac := .null) zu_s hn (g := g1) (by omega)) (by decide) (by omega) (by omega) rfl rfl (Nat.le_of_ble_eq_true rfl) ?_
        rw [hk9, show ciK 4 = 6 from rfl]
        refine z_as4 rfl rfl (pc' := 43) 23 rfl rfl ?_
        refine z_al0 (pc' := 44) 24 rfl rfl ?_
        refine z_al4 (pc' := 46) 25 rfl rfl ?_
        refine z_putf (pc' := 49) 26 rfl rfl f_Wb_301_11 (by first | exact pth_A (by omega) | assumption | exact zu_s | (rw [zu_n (by decide)]; assumption) | (rw [zu_n (by omega)]; exact zu_s)) rfl rfl (by rfl) (by rfl) ?_
        dsimp only [List.set]
        rw [zu_sw (a := n) (b := 4) (by omega), zu_zu]
        refine z_mu (show _ = pth (zu μ 4 (.inr (11, [.ref 5, .ref 24, .int kp, .ref 43, .ref 47, .ref 51, .ref 56, .ref 81, .ref 82, .ref 83, .ref 84, .ref 85, .ref 86, .ref 87, (.ref n)]))) n 6 g1 (S 3 g1) (0, false, tr) from (zu_id (by rw [zu_n (by omega), zu_n (by decide)]; exact h87)).symm) ?_
        refine z_il2 (pc' := 50) 27 rfl rfl ?_
        first | refine z_swN (by omega) 0 (by decide) (fun h50_0 => ?_) (fun h50_0 => ?_) | refine z_sw 0 (fun h50_0 => ?_) (fun h50_0 => ?_)
        · refine z_tableIn 28 rfl (by decide) (by decide) (off := 26) rfl (tgt := 76) rfl ?_
          refine z_al4 (pc' := 78) 29 rfl rfl ?_
          refine z_il3 (pc' := 79) 30 rfl rfl ?_
          refine z_callU1 (pc' := 82) 31 rfl rfl k_Wb_309_6 (by first | exact pth_A (by omega) | assumption | exact zu_s | (rw [zu_n (by decide)]; assumption) | (rw [zu_n (by omega)]; exact zu_s)) (c_Gi_sails_6 (st := (0, false, tr)) (by omega) (by omega) hw9 (Nat.zero_le _)) (by decide) (by omega) (by omega) rfl rfl (Nat.le_of_ble_eq_true rfl) ?_
          refine z_is5 rfl rfl (pc' := 84) 32 rfl rfl ?_
          refine z_goto 33 rfl (tgt := 117) rfl ?_
          subst h50_0
          rw [show (saP g1 v (0, false, tr)) = acK 0 4 g1 (S 3 g1) v (0, false, tr) from rfl]
          have hA9 := hA 0
          generalize acK 0 4 g1 (S 3 g1) v (0, false, tr) = R at *
          refine z_al4 (pc' := 119) 48 rfl rfl ?_
          refine z_getf (pc' := 122) 49 rfl rfl f_Wb_323_6 (by exact pth_A (by omega)) (by rfl) ?_
          first | refine z_if_eqB (pc' := 125) 50 rfl rfl (tgt := 130) rfl (fun h122 => ?_) (fun h122 => ?_) | refine z_if_eqN (pc' := 125) 50 rfl rfl (tgt := 130) rfl (by omega) (fun h122 => ?_) (fun h122 => ?_) | refine z_if_eq (pc' := 125) 50 rfl rfl (tgt := 130) rfl (fun h122 => ?_) (fun h122 => ?_)
          · refine z_il5 (pc' := 132) 53 rfl rfl ?_
            exact z_ireturn 54 rfl rfl (by first | rfl | exact zbo_nar) rfl rfl (by exact ⟨by rw [acA, if_neg h122], rfl⟩)
          · refine z_bipush (v := (-15)) (by decide) (pc' := 127) 51 rfl rfl ?_
            refine z_goto 52 rfl (tgt := 132) rfl ?_
            exact z_ireturn 54 rfl rfl (by first | rfl | exact zbo_nar) rfl rfl (by exact ⟨by rw [acA, if_pos h122], rfl⟩)
        first | refine z_swN (by omega) 1 (by decide) (fun h50_1 => ?_) (fun h50_1 => ?_) | refine z_sw 1 (fun h50_1 => ?_) (fun h50_1 => ?_)
        · refine z_tableIn 28 rfl (by decide) (by decide) (off := 37) rfl (tgt := 87) rfl ?_
          refine z_al4 (pc' := 89) 34 rfl rfl ?_
          refine z_il3 (pc' := 90) 35 rfl rfl ?_
          refine z_callU1 (pc' := 93) 36 rfl rfl k_Wb_314_6 (by first | exact pth_A (by omega) | assumption | exact zu_s | (rw [zu_n (by decide)]; assumption) | (rw [zu_n (by omega)]; exact zu_s)) (c_Gi_calls_6 (st := (0, false, tr)) (by omega) (by omega) hw9 (Nat.zero_le _)) (by decide) (by omega) (by omega) rfl rfl (Nat.le_of_ble_eq_true rfl) ?_
          refine z_is5 rfl rfl (pc' := 95) 37 rfl rfl ?_
          refine z_goto 38 rfl (tgt := 117) rfl ?_
          subst h50_1
          rw [show (caP 4 g1 (S 3 g1) v (0, false, tr)) = acK 1 4 g1 (S 3 g1) v (0, false, tr) from rfl]
          have hA9 := hA 1
          generalize acK 1 4 g1 (S 3 g1) v (0, false, tr) = R at *
          refine z_al4 (pc' := 119) 48 rfl rfl ?_
          refine z_getf (pc' := 122) 49 rfl rfl f_Wb_323_6 (by exact pth_A (by omega)) (by rfl) ?_
          first | refine z_if_eqB (pc' := 125) 50 rfl rfl (tgt := 130) rfl (fun h122 => ?_) (fun h122 => ?_) | refine z_if_eqN (pc' := 125) 50 rfl rfl (tgt := 130) rfl (by omega) (fun h122 => ?_) (fun h122 => ?_) | refine z_if_eq (pc' := 125) 50 rfl rfl (tgt := 130) rfl (fun h122 => ?_) (fun h122 => ?_)
          · refine z_il5 (pc' := 132) 53 rfl rfl ?_
            exact z_ireturn 54 rfl rfl (by first | rfl | exact zbo_nar) rfl rfl (by exact ⟨by rw [acA, if_neg h122], rfl⟩)
          · refine z_bipush (v := (-15)) (by decide) (pc' := 127) 51 rfl rfl ?_
            refine z_goto 52 rfl (tgt := 132) rfl ?_
            exact z_ireturn 54 rfl rfl (by first | rfl | exact zbo_nar) rfl rfl (by exact ⟨by rw [acA, if_pos h122], rfl⟩)
        first | refine z_swN (by omega) 2 (by decide) (fun h50_2 => ?_) (fun h50_2 => ?_) | refine z_sw 2 (fun h50_2 => ?_) (fun h50_2 => ?_)
        · refine z_tableIn 28 rfl (by decide) (by decide) (off := 48) rfl (tgt := 98) rfl ?_
          refine z_al4 (pc' := 100) 39 rfl rfl ?_
          refine z_il3 (pc' := 101) 40 rfl rfl ?_
          refine z_callU1 (pc' := 104) 41 rfl rfl k_Wb_317_6 (by first | exact pth_A (by omega) | assumption | exact zu_s | (rw [zu_n (by decide)]; assumption) | (rw [zu_n (by omega)]; exact zu_s)) (c_La_shares_6 (st := (0, false, tr)) (by omega) (by omega) hw9 (Nat.zero_le _)) (by decide) (by omega) (by omega) rfl rfl (Nat.le_of_ble_eq_true rfl) ?_
          refine z_is5 rfl rfl (pc' := 106) 42 rfl rfl ?_
          refine z_goto 43 rfl (tgt := 117) rfl ?_
          subst h50_2
          rw [show (shL g1 (S 3 g1) v (0, false, tr)) = acK 2 4 g1 (S 3 g1) v (0, false, tr) from rfl]
          have hA9 := hA 2
          generalize acK 2 4 g1 (S 3 g1) v (0, false, tr) = R at *
          refine z_al4 (pc' := 119) 48 rfl rfl ?_
          refine z_getf (pc' := 122) 49 rfl rfl f_Wb_323_6 (by exact pth_A (by omega)) (by rfl) ?_
          first | refine z_if_eqB (pc' := 125) 50 rfl rfl (tgt := 130) rfl (fun h122 => ?_) (fun h122 => ?_) | refine z_if_eqN (pc' := 125) 50 rfl rfl (tgt := 130) rfl (by omega) (fun h122 => ?_) (fun h122 => ?_) | refine z_if_eq (pc' := 125) 50 rfl rfl (tgt := 130) rfl (fun h122 => ?_) (fun h122 => ?_)
          · refine z_il5 (pc' := 132) 53 rfl rfl ?_
            exact z_ireturn 54 rfl rfl (by first | rfl | exact zbo_nar) rfl rfl (by exact ⟨by rw [acA, if_neg h122], rfl⟩)
          · refine z_bipush (v := (-15)) (by decide) (pc' := 127) 51 rfl rfl ?_
            refine z_goto 52 rfl (tgt := 132) rfl ?_
            exact z_ireturn 54 rfl rfl (by first | rfl | exact zbo_nar) rfl rfl (by exact ⟨by rw [acA, if_pos h122], rfl⟩)
        refine z_tableOut 28 rfl (by first | (rw [nI_toInt (by omega)]; omega) | (have e0 := z_ne (by decide) h50_0; have e1 := z_ne (by decide) h50_1; have e2 := z_ne (by decide) h50_2; omega)) (tgt := 109) rfl ?_
        refine z_al4 (pc' := 111) 44 rfl rfl ?_
        refine z_il3 (pc' := 112) 45 rfl rfl ?_
        refine z_callU1 (pc' := 115) 46 rfl rfl k_Wb_320_6 (by first | exact pth_A (by omega) | assumption | exact zu_s | (rw [zu_n (by decide)]; assumption) | (rw [zu_n (by omega)]; exact zu_s)) (c_Gi_weds_6 (st := (0, false, tr)) (by omega) (by omega) hw9 (Nat.zero_le _)) (by decide) (by omega) (by omega) rfl rfl (Nat.le_of_ble_eq_true rfl) ?_
        refine z_is5 rfl rfl (pc' := 117) 47 rfl rfl ?_
        obtain rfl : y1 = 3 := by omega
        rw [show (weP 4 g1 (S 3 g1) v (0, false, tr)) = acK 3 4 g1 (S 3 g1) v (0, false, tr) from rfl]
        have hA9 := hA 3
        generalize acK 3 4 g1 (S 3 g1) v (0, false, tr) = R at *
        refine z_al4 (pc' := 119) 48 rfl rfl ?_
        refine z_getf (pc' := 122) 49 rfl rfl f_Wb_323_6 (by exact pth_A (by omega)) (by rfl) ?_
        first | refine z_if_eqB (pc' := 125) 50 rfl rfl (tgt := 130) rfl (fun h122 => ?_) (fun h122 => ?_) | refine z_if_eqN (pc' := 125) 50 rfl rfl (tgt := 130) rfl (by omega) (fun h122 => ?_) (fun h122 => ?_) | refine z_if_eq (pc' := 125) 50 rfl rfl (tgt := 130) rfl (fun h122 => ?_) (fun h122 => ?_)
        · refine z_il5 (pc' := 132) 53 rfl rfl ?_
          exact z_ireturn 54 rfl rfl (by first | rfl | exact zbo_nar) rfl rfl (by exact ⟨by rw [acA, if_neg h122], rfl⟩)
        · refine z_bipush (v := (-15)) (by decide) (pc' := 127) 51 rfl rfl ?_
          refine z_goto 52 rfl (tgt := 132) rfl ?_
          exact z_ireturn 54 rfl rfl (by first | rfl | exact zbo_nar) rfl rfl (by exact ⟨by rw [acA, if_pos h122], rfl⟩)
      · first | exact absurd h26 (by decide) | (exfalso; omega) | exact absurd ⟨nI_le (Nat.zero_le _) (by omega), nI_le hx1 (by decide)⟩ h9 | exact absurd ⟨nI_le (Nat.zero_le _) (by omega), nI_le hy1 (by decide)⟩ h18
set_option maxHeartbeats 4000000 in
set_option maxRecDepth 100000 in
theorem c_Wb_act1_5 {G : zG} {n u : Nat} {μ : Nat → va_E} {κ : zκ} {σ : zσ} {kp : Int32} {ac : Value} {tr : Nat → Int32} (h : cst μ κ) (hhe : isHe μ σ) (hob : isOb μ kp ac) (h87 : μ 87 = .inl (0, 30, .inl tr)) (hn : 106 ≤ n) (v : Int32) {x1 y1 g1 : Nat} (hx1 : x1 ≤ 3) (hy1 : y1 ≤ 3) (hg1 : g1 < κ.1 0 0) (eg : (σ x1).2.1 = nI g1) (hl0 : (σ x1).1 = 0) (ek : κ.1 1 g1 = 5) : zMet G 8 M_Wb_act [.ref 4, .int (nI x1), .int (nI y1), .int v] n u μ (n + 1) (u + 5) (fun r μ' => r = some (.int (acA (acK y1 5 g1 (κ.1 3 g1) v (0, false, tr)))) ∧ μ' = pth (zu μ 4 (.inr (11, [.ref 5, .ref 24, .int kp, .ref 43, .ref 47, .ref 51, .ref 56, .ref 81, .ref 82, .ref 83, .ref 84, .ref 85, .ref 86, .ref 87, (.ref n)]))) n 2 g1 (κ.1 3 g1) (acK y1 5 g1 (κ.1 3 g1) v (0, false, tr)).2) := by
  obtain ⟨S, mo, pr, fa, sc, ch, rc, D⟩ := κ
  obtain ⟨h1, -, -, -, hk5⟩ := h
  have hi := hk5.1
  have hi0 := hi.1
  have hhe0 := hhe
  obtain ⟨nu, ss, h84, h85, h86, hH⟩ := hhe
  have hob0 := hob
  unfold isOb at hob
  have hg1 : g1 < S 0 0 := hg1
  have hk9 : S 1 g1 = 5 := ek
  have hw9 : S 3 g1 ≤ 9 := (hi.2.2.2.2.2 g1).2.2.1
  have hl9 : hld S σ x1 = 0 := by rw [hld, if_neg (fun z => z.2 (by rw [eg]; exact ⟨nI_pos' (by omega), nI_lt hg1 (by omega)⟩))]; exact hl0
  have hA := fun (y : Nat) => iA_ac (y := y) (k := 5) (g := g1) (w := S 3 g1) (x := v) (st := (0, false, tr)) (Nat.zero_le _)
  refine z_start (lv := [.ref 4, .int (nI x1), .int (nI y1), .int v, .retAddr 0, .retAddr 0]) K_Wb_act rfl rfl (by omega) (by omega) (Nat.le_of_ble_eq_true rfl) rfl ?_
  refine z_al0 (pc' := 1) 0 rfl rfl ?_
  refine z_aconst_null (pc' := 2) 1 rfl rfl ?_
  refine z_putf (pc' := 5) 2 rfl rfl f_Wb_301_11 (by first | exact pth_A (by omega) | assumption | exact zu_s | (rw [zu_n (by decide)]; assumption) | (rw [zu_n (by omega)]; exact zu_s)) rfl rfl (by rfl) (by rfl) ?_
  dsimp only [List.set]
  refine z_il1 (pc' := 6) 3 rfl rfl ?_
  refine z_callS1 (pc' := 9) 4 rfl rfl k_Wb_288 (c_Wb_isShelf _) (by decide) (by omega) (by omega) rfl rfl (Nat.le_of_ble_eq_true rfl) ?_
  first | refine z_if_eqB (pc' := 12) 5 rfl rfl (tgt := 29) rfl (fun h9 => ?_) (fun h9 => ?_) | refine z_if_eqN (pc' := 12) 5 rfl rfl (tgt := 29) rfl (by omega) (fun h9 => ?_) (fun h9 => ?_) | refine z_if_eq (pc' := 12) 5 rfl rfl (tgt := 29) rfl (fun h9 => ?_) (fun h9 => ?_)
  · first | exact absurd h26 (by decide) | (exfalso; omega) | exact absurd ⟨nI_le (Nat.zero_le _) (by omega), nI_le hx1 (by decide)⟩ h9 | exact absurd ⟨nI_le (Nat.zero_le _) (by omega), nI_le hy1 (by decide)⟩ h18
  · refine z_il2 (pc' := 13) 6 rfl rfl ?_
    refine z_iconst (v := nI 0) (by decide) (pc' := 14) 7 rfl rfl ?_
    refine z_iconst (v := nI 3) (by decide) (pc' := 15) 8 rfl rfl ?_
    refine z_callS1 (pc' := 18) 9 rfl rfl k_Wb_72 (c_Wb_within _ _ _) (by decide) (by omega) (by omega) rfl rfl (Nat.le_of_ble_eq_true rfl) ?_
    first | refine z_if_eqB (pc' := 21) 10 rfl rfl (tgt := 29) rfl (fun h18 => ?_) (fun h18 => ?_) | refine z_if_eqN (pc' := 21) 10 rfl rfl (tgt := 29) rfl (by omega) (fun h18 => ?_) (fun h18 => ?_) | refine z_if_eq (pc' := 21) 10 rfl rfl (tgt := 29) rfl (fun h18 => ?_) (fun h18 => ?_)
    · first | exact absurd h26 (by decide) | (exfalso; omega) | exact absurd ⟨nI_le (Nat.zero_le _) (by omega), nI_le hx1 (by decide)⟩ h9 | exact absurd ⟨nI_le (Nat.zero_le _) (by omega), nI_le hy1 (by decide)⟩ h18
    · refine z_al0 (pc' := 22) 11 rfl rfl ?_
      refine z_il1 (pc' := 23) 12 rfl rfl ?_
      refine z_callV1 (pc' := 26) 13 rfl rfl k_Wb_295 (by first | exact pth_A (by omega) | assumption | exact zu_s | (rw [zu_n (by decide)]; assumption) | (rw [zu_n (by omega)]; exact zu_s)) (c_Wb_heldOn (S := S) (sc := sc) (ch := ch) (σ := σ) (kp := kp) (ac := .null) (isCo_fr h1 (fun i hi => zu_n (by omega))) hi (isHe_fr hhe0 (fun i a b => zu_n (by omega))) zu_s hx1) (by decide) (by omega) (by omega) rfl rfl (Nat.le_of_ble_eq_true rfl) ?_
      rw [hl9]
      first | refine z_if_eqB (pc' := 29) 14 rfl rfl (tgt := 31) rfl (fun h26 => ?_) (fun h26 => ?_) | refine z_if_eqN (pc' := 29) 14 rfl rfl (tgt := 31) rfl (by omega) (fun h26 => ?_) (fun h26 => ?_) | refine z_if_eq (pc' := 29) 14 rfl rfl (tgt := 31) rfl (fun h26 => ?_) (fun h26 => ?_)
      · refine z_al0 (pc' := 32) 17 rfl rfl ?_
        refine z_al0 (pc' := 33) 18 rfl rfl ?_
        refine z_getf (pc' := 36) 19 rfl rfl f_Wb_60_11 (by first | exact pth_A (by omega) | assumption | exact zu_s | (rw [zu_n (by decide)]; assumption) | (rw [zu_n (by omega)]; exact zu_s)) (by rfl) ?_
        refine z_il1 (pc' := 37) 20 rfl rfl ?_
        refine z_iald (pc' := 38) 21 rfl rfl (by first | exact pth_A (by omega) | assumption | exact zu_s | (rw [zu_n (by decide)]; assumption) | (rw [zu_n (by omega)]; exact zu_s)) (by omega) (by decide) ?_
        rw [(hH x1).2.1 hl0, eg]
        refine z_callV1 (pc' := 41) 22 rfl rfl k_Wb_305 (by first | exact pth_A (by omega) | assumption | exact zu_s | (rw [zu_n (by decide)]; assumption) | (rw [zu_n (by omega)]; exact zu_s)) (c_Wb_thingOf (isCo_fr h1 (fun i hi => zu_n (by omega))) hi (kp := kp) (ac := .null) zu_s hn (g := g1) (by omega)) (by decide) (by omega) (by omega) rfl rfl (Nat.le_of_ble_eq_true rfl) ?_
        rw [hk9, show ciK 5 = 2 from rfl]
        refine z_as4 rfl rfl (pc' := 43) 23 rfl rfl ?_
        refine z_al0 (pc' := 44) 24 rfl rfl ?_
        refine z_al4 (pc' := 46) 25 rfl rfl ?_
        refine z_putf (pc' := 49) 26 rfl rfl f_Wb_301_11 (by first | exact pth_A (by omega) | assumption | exact zu_s | (rw [zu_n (by decide)]; assumption) | (rw [zu_n (by omega)]; exact zu_s)) rfl rfl (by rfl) (by rfl) ?_
        dsimp only [List.set]
        rw [zu_sw (a := n) (b := 4) (by omega), zu_zu]
        refine z_mu (show _ = pth (zu μ 4 (.inr (11, [.ref 5, .ref 24, .int kp, .ref 43, .ref 47, .ref 51, .ref 56, .ref 81, .ref 82, .ref 83, .ref 84, .ref 85, .ref 86, .ref 87, (.ref n)]))) n 2 g1 (S 3 g1) (0, false, tr) from (zu_id (by rw [zu_n (by omega), zu_n (by decide)]; exact h87)).symm) ?_
        refine z_il2 (pc' := 50) 27 rfl rfl ?_
        first | refine z_swN (by omega) 0 (by decide) (fun h50_0 => ?_) (fun h50_0 => ?_) | refine z_sw 0 (fun h50_0 => ?_) (fun h50_0 => ?_)
        · refine z_tableIn 28 rfl (by decide) (by decide) (off := 26) rfl (tgt := 76) rfl ?_
          refine z_al4 (pc' := 78) 29 rfl rfl ?_
          refine z_il3 (pc' := 79) 30 rfl rfl ?_
          refine z_callU1 (pc' := 82) 31 rfl rfl k_Wb_309_2 (by first | exact pth_A (by omega) | assumption | exact zu_s | (rw [zu_n (by decide)]; assumption) | (rw [zu_n (by omega)]; exact zu_s)) (c_Gi_sails_2 (st := (0, false, tr)) (by omega) (by omega) hw9 (Nat.zero_le _)) (by decide) (by omega) (by omega) rfl rfl (Nat.le_of_ble_eq_true rfl) ?_
          refine z_is5 rfl rfl (pc' := 84) 32 rfl rfl ?_
          refine z_goto 33 rfl (tgt := 117) rfl ?_
          subst h50_0
          rw [show (saP g1 v (0, false, tr)) = acK 0 5 g1 (S 3 g1) v (0, false, tr) from rfl]
          have hA9 := hA 0
          generalize acK 0 5 g1 (S 3 g1) v (0, false, tr) = R at *
          refine z_al4 (pc' := 119) 48 rfl rfl ?_
          refine z_getf (pc' := 122) 49 rfl rfl f_Wb_323_2 (by exact pth_A (by omega)) (by rfl) ?_
          first | refine z_if_eqB (pc' := 125) 50 rfl rfl (tgt := 130) rfl (fun h122 => ?_) (fun h122 => ?_) | refine z_if_eqN (pc' := 125) 50 rfl rfl (tgt := 130) rfl (by omega) (fun h122 => ?_) (fun h122 => ?_) | refine z_if_eq (pc' := 125) 50 rfl rfl (tgt := 130) rfl (fun h122 => ?_) (fun h122 => ?_)
          · refine z_il5 (pc' := 132) 53 rfl rfl ?_
            exact z_ireturn 54 rfl rfl (by first | rfl | exact zbo_nar) rfl rfl (by exact ⟨by rw [acA, if_neg h122], rfl⟩)
          · refine z_bipush (v := (-15)) (by decide) (pc' := 127) 51 rfl rfl ?_
            refine z_goto 52 rfl (tgt := 132) rfl ?_
            exact z_ireturn 54 rfl rfl (by first | rfl | exact zbo_nar) rfl rfl (by exact ⟨by rw [acA, if_pos h122], rfl⟩)
        first | refine z_swN (by omega) 1 (by decide) (fun h50_1 => ?_) (fun h50_1 => ?_) | refine z_sw 1 (fun h50_1 => ?_) (fun h50_1 => ?_)
        · refine z_tableIn 28 rfl (by decide) (by decide) (off := 37) rfl (tgt := 87) rfl ?_
          refine z_al4 (pc' := 89) 34 rfl rfl ?_
          refine z_il3 (pc' := 90) 35 rfl rfl ?_
          refine z_callU1 (pc' := 93) 36 rfl rfl k_Wb_314_2 (by first | exact pth_A (by omega) | assumption | exact zu_s | (rw [zu_n (by decide)]; assumption) | (rw [zu_n (by omega)]; exact zu_s)) (c_Ca_calls_2 (st := (0, false, tr)) (by omega) (by omega) hw9 (Nat.zero_le _)) (by decide) (by omega) (by omega) rfl rfl (Nat.le_of_ble_eq_true rfl) ?_
          refine z_is5 rfl rfl (pc' := 95) 37 rfl rfl ?_
          refine z_goto 38 rfl (tgt := 117) rfl ?_
          subst h50_1
          rw [show (caK 5 g1 (S 3 g1) v (0, false, tr)) = acK 1 5 g1 (S 3 g1) v (0, false, tr) from rfl]
          have hA9 := hA 1
          generalize acK 1 5 g1 (S 3 g1) v (0, false, tr) = R at *
          refine z_al4 (pc' := 119) 48 rfl rfl ?_
          refine z_getf (pc' := 122) 49 rfl rfl f_Wb_323_2 (by exact pth_A (by omega)) (by rfl) ?_
          first | refine z_if_eqB (pc' := 125) 50 rfl rfl (tgt := 130) rfl (fun h122 => ?_) (fun h122 => ?_) | refine z_if_eqN (pc' := 125) 50 rfl rfl (tgt := 130) rfl (by omega) (fun h122 => ?_) (fun h122 => ?_) | refine z_if_eq (pc' := 125) 50 rfl rfl (tgt := 130) rfl (fun h122 => ?_) (fun h122 => ?_)
          · refine z_il5 (pc' := 132) 53 rfl rfl ?_
            exact z_ireturn 54 rfl rfl (by first | rfl | exact zbo_nar) rfl rfl (by exact ⟨by rw [acA, if_neg h122], rfl⟩)
          · refine z_bipush (v := (-15)) (by decide) (pc' := 127) 51 rfl rfl ?_
            refine z_goto 52 rfl (tgt := 132) rfl ?_
            exact z_ireturn 54 rfl rfl (by first | rfl | exact zbo_nar) rfl rfl (by exact ⟨by rw [acA, if_pos h122], rfl⟩)
        first | refine z_swN (by omega) 2 (by decide) (fun h50_2 => ?_) (fun h50_2 => ?_) | refine z_sw 2 (fun h50_2 => ?_) (fun h50_2 => ?_)
        · refine z_tableIn 28 rfl (by decide) (by decide) (off := 48) rfl (tgt := 98) rfl ?_
          refine z_al4 (pc' := 100) 39 rfl rfl ?_
          refine z_il3 (pc' := 101) 40 rfl rfl ?_
          refine z_callU1 (pc' := 104) 41 rfl rfl k_Wb_317_2 (by first | exact pth_A (by omega) | assumption | exact zu_s | (rw [zu_n (by decide)]; assumption) | (rw [zu_n (by omega)]; exact zu_s)) (c_Ca_shares_2 (st := (0, false, tr)) (by omega) (by omega) hw9 (Nat.zero_le _)) (by decide) (by omega) (by omega) rfl rfl (Nat.le_of_ble_eq_true rfl) ?_
          refine z_is5 rfl rfl (pc' := 106) 42 rfl rfl ?_
          refine z_goto 43 rfl (tgt := 117) rfl ?_
          subst h50_2
          rw [show (shK 5 g1 (S 3 g1) v (0, false, tr)) = acK 2 5 g1 (S 3 g1) v (0, false, tr) from rfl]
          have hA9 := hA 2
          generalize acK 2 5 g1 (S 3 g1) v (0, false, tr) = R at *
          refine z_al4 (pc' := 119) 48 rfl rfl ?_
          refine z_getf (pc' := 122) 49 rfl rfl f_Wb_323_2 (by exact pth_A (by omega)) (by rfl) ?_
          first | refine z_if_eqB (pc' := 125) 50 rfl rfl (tgt := 130) rfl (fun h122 => ?_) (fun h122 => ?_) | refine z_if_eqN (pc' := 125) 50 rfl rfl (tgt := 130) rfl (by omega) (fun h122 => ?_) (fun h122 => ?_) | refine z_if_eq (pc' := 125) 50 rfl rfl (tgt := 130) rfl (fun h122 => ?_) (fun h122 => ?_)
          · refine z_il5 (pc' := 132) 53 rfl rfl ?_
            exact z_ireturn 54 rfl rfl (by first | rfl | exact zbo_nar) rfl rfl (by exact ⟨by rw [acA, if_neg h122], rfl⟩)
          · refine z_bipush (v := (-15)) (by decide) (pc' := 127) 51 rfl rfl ?_
            refine z_goto 52 rfl (tgt := 132) rfl ?_
            exact z_ireturn 54 rfl rfl (by first | rfl | exact zbo_nar) rfl rfl (by exact ⟨by rw [acA, if_pos h122], rfl⟩)
        refine z_tableOut 28 rfl (by first | (rw [nI_toInt (by omega)]; omega) | (have e0 := z_ne (by decide) h50_0; have e1 := z_ne (by decide) h50_1; have e2 := z_ne (by decide) h50_2; omega)) (tgt := 109) rfl ?_
        refine z_al4 (pc' := 111) 44 rfl rfl ?_
        refine z_il3 (pc' := 112) 45 rfl rfl ?_
        refine z_callU1 (pc' := 115) 46 rfl rfl k_Wb_320_2 (by first | exact pth_A (by omega) | assumption | exact zu_s | (rw [zu_n (by decide)]; assumption) | (rw [zu_n (by omega)]; exact zu_s)) (c_Gi_weds_2 (st := (0, false, tr)) (by omega) (by omega) hw9 (Nat.zero_le _)) (by decide) (by omega) (by omega) rfl rfl (Nat.le_of_ble_eq_true rfl) ?_
        refine z_is5 rfl rfl (pc' := 117) 47 rfl rfl ?_
        obtain rfl : y1 = 3 := by omega
        rw [show (weP 5 g1 (S 3 g1) v (0, false, tr)) = acK 3 5 g1 (S 3 g1) v (0, false, tr) from rfl]
        have hA9 := hA 3
        generalize acK 3 5 g1 (S 3 g1) v (0, false, tr) = R at *
        refine z_al4 (pc' := 119) 48 rfl rfl ?_
        refine z_getf (pc' := 122) 49 rfl rfl f_Wb_323_2 (by exact pth_A (by omega)) (by rfl) ?_
        first | refine z_if_eqB (pc' := 125) 50 rfl rfl (tgt := 130) rfl (fun h122 => ?_) (fun h122 => ?_) | refine z_if_eqN (pc' := 125) 50 rfl rfl (tgt := 130) rfl (by omega) (fun h122 => ?_) (fun h122 => ?_) | refine z_if_eq (pc' := 125) 50 rfl rfl (tgt := 130) rfl (fun h122 => ?_) (fun h122 => ?_)
        · refine z_il5 (pc' := 132) 53 rfl rfl ?_
          exact z_ireturn 54 rfl rfl (by first | rfl | exact zbo_nar) rfl rfl (by exact ⟨by rw [acA, if_neg h122], rfl⟩)
        · refine z_bipush (v := (-15)) (by decide) (pc' := 127) 51 rfl rfl ?_
          refine z_goto 52 rfl (tgt := 132) rfl ?_
          exact z_ireturn 54 rfl rfl (by first | rfl | exact zbo_nar) rfl rfl (by exact ⟨by rw [acA, if_pos h122], rfl⟩)
      · first | exact absurd h26 (by decide) | (exfalso; omega) | exact absurd ⟨nI_le (Nat.zero_le _) (by omega), nI_le hx1 (by decide)⟩ h9 | exact absurd ⟨nI_le (Nat.zero_le _) (by omega), nI_le hy1 (by decide)⟩ h18
theorem zMet_to {G : zG} {d : Nat} {M : zM} {as : List Value} {n u : Nat} {μ : Nat → va_E} {n' u' : Nat} {Φ Ψ : zP} (k : zMet G d M as n u μ n' u' Φ) (h : ∀ r μ', Φ r μ' → Ψ r μ') : zMet G d M as n u μ n' u' Ψ := by
  obtain ⟨m1, m2, m3⟩ := k
  refine ⟨m1, m2, ?_⟩
  intro p e ha hc hk s m args below hf hap hP hK
  obtain ⟨j, o, a1, a2, a3, ⟨r, μ', q1, q2, q3⟩, fr⟩ := m3 p e ha hc hk s m args below hf hap hP hK
  exact ⟨j, o, a1, a2, a3, ⟨r, μ', q1, h r μ' q2, q3⟩, fr⟩
theorem c_Wb_act1 {G : zG} {n u : Nat} {μ : Nat → va_E} {κ : zκ} {σ : zσ} {kp : Int32} {ac : Value} {tr : Nat → Int32} (h : cst μ κ) (hhe : isHe μ σ) (hob : isOb μ kp ac) (h87 : μ 87 = .inl (0, 30, .inl tr)) (hn : 106 ≤ n) (x y v : Int32) (hc : acC κ.1 σ x y) : zMet G 8 M_Wb_act [.ref 4, .int x, .int y, .int v] n u μ (n + 1) (u + 5) (fun r μ' => r = some (.int (acA (acR κ.1 σ tr x y v))) ∧ isOb μ' kp (.ref n) ∧ isAc μ' (.ref n) (acR κ.1 σ tr x y v).2.1 ∧ μ' 87 = .inl (0, 30, .inl (acR κ.1 σ tr x y v).2.2.2) ∧ ∀ i, i ≠ 4 → i ≠ 87 → i ≠ n → μ' i = μ i) := by
  obtain ⟨hx, hy, hl⟩ := hc
  have hi := h
  obtain ⟨S, mo, pr, fa, sc, ch, rc, D⟩ := κ
  have hi : iS S := hi.2.2.2.2.1
  have hi0 := hi.1
  obtain ⟨x1, _, hx1, rfl⟩ := z_wi hx (by decide) (by decide)
  obtain ⟨y1, _, hy1, rfl⟩ := z_wi hy (by decide) (by decide)
  rw [tN_n (by omega)] at hl
  have hl : hld S σ x1 = 0 := hl
  obtain ⟨q1, q2⟩ := hld_0 hl
  obtain ⟨g1, hg1, eg⟩ := z_in q2 (by omega)
  have hk := (hi.2.2.2.2.2 g1).1
  have key : ∀ k ci, S 1 g1 = k → (ci = 5 ∨ ci = 8 ∨ ci = 1 ∨ ci = 10 ∨ ci = 6 ∨ ci = 2) → zMet G 8 M_Wb_act [.ref 4, .int (nI x1), .int (nI y1), .int v] n u μ (n + 1) (u + 5) (fun r μ' => r = some (.int (acA (acK y1 k g1 (S 3 g1) v (0, false, tr)))) ∧ μ' = pth (zu μ 4 (.inr (11, [.ref 5, .ref 24, .int kp, .ref 43, .ref 47, .ref 51, .ref 56, .ref 81, .ref 82, .ref 83, .ref 84, .ref 85, .ref 86, .ref 87, (.ref n)]))) n ci g1 (S 3 g1) (acK y1 k g1 (S 3 g1) v (0, false, tr)).2) →
      zMet G 8 M_Wb_act [.ref 4, .int (nI x1), .int (nI y1), .int v] n u μ (n + 1) (u + 5) (fun r μ' => r = some (.int (acA (acR S σ tr (nI x1) (nI y1) v))) ∧ isOb μ' kp (.ref n) ∧ isAc μ' (.ref n) (acR S σ tr (nI x1) (nI y1) v).2.1 ∧ μ' 87 = .inl (0, 30, .inl (acR S σ tr (nI x1) (nI y1) v).2.2.2) ∧ ∀ i, i ≠ 4 → i ≠ 87 → i ≠ n → μ' i = μ i) := by
    intro k ci ek hci hm
    refine zMet_to hm (fun r μ' hq => ?_)
    obtain ⟨rfl, rfl⟩ := hq
    have e9 : acR S σ tr (nI x1) (nI y1) v = acK y1 k g1 (S 3 g1) v (0, false, tr) := by
      unfold acR
      rw [tN_n (by omega), tN_n (by omega), eg, tN_n (by omega), ek]
    rw [e9]
    refine ⟨rfl, ?_, Or.inr ⟨n, ci, _, _, _, rfl, hci, hn, pth_A (by omega)⟩, ?_, fun i a b c => ?_⟩
    · show pth _ _ _ _ _ _ 4 = _
      rw [pth_o (by omega) (by decide)]
      exact zu_s
    · generalize acK y1 k g1 (S 3 g1) v (0, false, tr) = R
      obtain ⟨r0, b0, p0, t0⟩ := R
      exact pth_87
    · rw [pth_o c b, zu_n a]
  rcases (show S 1 g1 = 0 ∨ S 1 g1 = 1 ∨ S 1 g1 = 2 ∨ S 1 g1 = 3 ∨ S 1 g1 = 4 ∨ S 1 g1 = 5 by omega) with e | e | e | e | e | e
  · exact key 0 5 e (by decide) (c_Wb_act1_0 h hhe hob h87 hn v hx1 hy1 hg1 eg q1 e)
  · exact key 1 8 e (by decide) (c_Wb_act1_1 h hhe hob h87 hn v hx1 hy1 hg1 eg q1 e)
  · exact key 2 1 e (by decide) (c_Wb_act1_2 h hhe hob h87 hn v hx1 hy1 hg1 eg q1 e)
  · exact key 3 10 e (by decide) (c_Wb_act1_3 h hhe hob h87 hn v hx1 hy1 hg1 eg q1 e)
  · exact key 4 6 e (by decide) (c_Wb_act1_4 h hhe hob h87 hn v hx1 hy1 hg1 eg q1 e)
  · exact key 5 2 e (by decide) (c_Wb_act1_5 h hhe hob h87 hn v hx1 hy1 hg1 eg q1 e)
set_option maxHeartbeats 4000000 in
set_option maxRecDepth 100000 in
theorem c_Wb_trace_N {G : zG} {n u : Nat} {μ : Nat → va_E} {kp : Int32} {tc : Nat} {tr : Nat → Int32} (hob : isOb μ kp .null) (h87 : μ 87 = .inl (0, 30, .inl tr)) (htc : tc ≤ 30) (x : Int32) : zMet G 0 M_Wb_trace [.ref 4, .int x] n u μ n u (zE (some (.int (-3))) μ) := by
  unfold isOb at hob
  refine z_start (lv := [.ref 4, .int x]) K_Wb_trace rfl rfl (Nat.le_refl _) (Nat.le_refl _) (Nat.le_of_ble_eq_true rfl) rfl ?_
  refine z_al0 (pc' := 1) 0 rfl rfl ?_
  refine z_getf (pc' := 4) 1 rfl rfl f_Wb_301_11 (by assumption) (by rfl) ?_
  refine z_ifnullN 2 rfl (tgt := 31) rfl ?_
  refine z_bipush (v := (-3)) (by decide) (pc' := 33) 15 rfl rfl ?_
  exact z_ireturn 16 rfl rfl (by first | rfl | exact zbo_nar) rfl rfl (by exact ⟨rfl, rfl⟩)
set_option maxHeartbeats 4000000 in
set_option maxRecDepth 100000 in
theorem c_Wb_trace_5 {G : zG} {n u : Nat} {μ : Nat → va_E} {kp : Int32} {tc : Nat} {tr : Nat → Int32} {a : Nat} {p1 p2 p3 : Int32} (h_a : μ a = .inr (5, [.int p1, .int p2, .ref 87, .int (nI tc), .int p3])) (hob : isOb μ kp (.ref a)) (h87 : μ 87 = .inl (0, 30, .inl tr)) (htc : tc ≤ 30) (x : Int32) : zMet G 0 M_Wb_trace [.ref 4, .int x] n u μ n u (zE (some (.int (f_trace tc tr x))) μ) := by
  unfold isOb at hob
  refine z_start (lv := [.ref 4, .int x]) K_Wb_trace rfl rfl (Nat.le_refl _) (Nat.le_refl _) (Nat.le_of_ble_eq_true rfl) rfl ?_
  refine z_al0 (pc' := 1) 0 rfl rfl ?_
  refine z_getf (pc' := 4) 1 rfl rfl f_Wb_301_11 (by assumption) (by rfl) ?_
  refine z_ifnullR (pc' := 7) 2 rfl rfl ?_
  refine z_il1 (pc' := 8) 3 rfl rfl ?_
  first | refine z_if_lt (pc' := 11) 4 rfl rfl (tgt := 31) rfl (fun h8 => ?_) (fun h8 => ?_)
  · refine z_bipush (v := (-3)) (by decide) (pc' := 33) 15 rfl rfl ?_
    exact z_ireturn 16 rfl rfl (by first | rfl | exact zbo_nar) rfl rfl (by exact ⟨by rw [f_trace, if_neg (fun z => absurd h8 (Int32.not_lt.mpr z.1))], rfl⟩)
  · refine z_il1 (pc' := 12) 5 rfl rfl ?_
    refine z_al0 (pc' := 13) 6 rfl rfl ?_
    refine z_getf (pc' := 16) 7 rfl rfl f_Wb_301_11 (by assumption) (by rfl) ?_
    refine z_getf (pc' := 19) 8 rfl rfl f_Wb_345_5 (by assumption) (by rfl) ?_
    first | refine z_icmp_ge (pc' := 22) 9 rfl rfl (tgt := 31) rfl (fun h19 => ?_) (fun h19 => ?_)
    · refine z_bipush (v := (-3)) (by decide) (pc' := 33) 15 rfl rfl ?_
      exact z_ireturn 16 rfl rfl (by first | rfl | exact zbo_nar) rfl rfl (by exact ⟨by rw [f_trace, if_neg (fun z => absurd z.2 (Int32.not_lt.mpr h19))], rfl⟩)
    · obtain ⟨j, hj, rfl⟩ := z_in (x := x) (k := tc) ⟨Int32.not_lt.mp h8, Int32.not_le.mp h19⟩ (by omega)
      refine z_al0 (pc' := 23) 10 rfl rfl ?_
      refine z_getf (pc' := 26) 11 rfl rfl f_Wb_66_11 (by assumption) (by rfl) ?_
      refine z_il1 (pc' := 27) 12 rfl rfl ?_
      refine z_iald (pc' := 28) 13 rfl rfl (by assumption) (by omega) (by decide) ?_
      refine z_goto 14 rfl (tgt := 33) rfl ?_
      exact z_ireturn 16 rfl rfl (by first | rfl | exact zbo_nar) rfl rfl (by exact ⟨by rw [f_trace, if_pos ⟨Int32.not_lt.mp h8, Int32.not_le.mp h19⟩, tN_n (by omega)], rfl⟩)
set_option maxHeartbeats 4000000 in
set_option maxRecDepth 100000 in
theorem c_Wb_trace_8 {G : zG} {n u : Nat} {μ : Nat → va_E} {kp : Int32} {tc : Nat} {tr : Nat → Int32} {a : Nat} {p1 p2 p3 : Int32} (h_a : μ a = .inr (8, [.int p1, .int p2, .ref 87, .int (nI tc), .int p3])) (hob : isOb μ kp (.ref a)) (h87 : μ 87 = .inl (0, 30, .inl tr)) (htc : tc ≤ 30) (x : Int32) : zMet G 0 M_Wb_trace [.ref 4, .int x] n u μ n u (zE (some (.int (f_trace tc tr x))) μ) := by
  unfold isOb at hob
  refine z_start (lv := [.ref 4, .int x]) K_Wb_trace rfl rfl (Nat.le_refl _) (Nat.le_refl _) (Nat.le_of_ble_eq_true rfl) rfl ?_
  refine z_al0 (pc' := 1) 0 rfl rfl ?_
  refine z_getf (pc' := 4) 1 rfl rfl f_Wb_301_11 (by assumption) (by rfl) ?_
  refine z_ifnullR (pc' := 7) 2 rfl rfl ?_
  refine z_il1 (pc' := 8) 3 rfl rfl ?_
  first | refine z_if_lt (pc' := 11) 4 rfl rfl (tgt := 31) rfl (fun h8 => ?_) (fun h8 => ?_)
  · refine z_bipush (v := (-3)) (by decide) (pc' := 33) 15 rfl rfl ?_
    exact z_ireturn 16 rfl rfl (by first | rfl | exact zbo_nar) rfl rfl (by exact ⟨by rw [f_trace, if_neg (fun z => absurd h8 (Int32.not_lt.mpr z.1))], rfl⟩)
  · refine z_il1 (pc' := 12) 5 rfl rfl ?_
    refine z_al0 (pc' := 13) 6 rfl rfl ?_
    refine z_getf (pc' := 16) 7 rfl rfl f_Wb_301_11 (by assumption) (by rfl) ?_
    refine z_getf (pc' := 19) 8 rfl rfl f_Wb_345_8 (by assumption) (by rfl) ?_
    first | refine z_icmp_ge (pc' := 22) 9 rfl rfl (tgt := 31) rfl (fun h19 => ?_) (fun h19 => ?_)
    · refine z_bipush (v := (-3)) (by decide) (pc' := 33) 15 rfl rfl ?_
      exact z_ireturn 16 rfl rfl (by first | rfl | exact zbo_nar) rfl rfl (by exact ⟨by rw [f_trace, if_neg (fun z => absurd z.2 (Int32.not_lt.mpr h19))], rfl⟩)
    · obtain ⟨j, hj, rfl⟩ := z_in (x := x) (k := tc) ⟨Int32.not_lt.mp h8, Int32.not_le.mp h19⟩ (by omega)
      refine z_al0 (pc' := 23) 10 rfl rfl ?_
      refine z_getf (pc' := 26) 11 rfl rfl f_Wb_66_11 (by assumption) (by rfl) ?_
      refine z_il1 (pc' := 27) 12 rfl rfl ?_
      refine z_iald (pc' := 28) 13 rfl rfl (by assumption) (by omega) (by decide) ?_
      refine z_goto 14 rfl (tgt := 33) rfl ?_
      exact z_ireturn 16 rfl rfl (by first | rfl | exact zbo_nar) rfl rfl (by exact ⟨by rw [f_trace, if_pos ⟨Int32.not_lt.mp h8, Int32.not_le.mp h19⟩, tN_n (by omega)], rfl⟩)
set_option maxHeartbeats 4000000 in
set_option maxRecDepth 100000 in
theorem c_Wb_trace_1 {G : zG} {n u : Nat} {μ : Nat → va_E} {kp : Int32} {tc : Nat} {tr : Nat → Int32} {a : Nat} {p1 p2 p3 : Int32} (h_a : μ a = .inr (1, [.int p1, .int p2, .ref 87, .int (nI tc), .int p3])) (hob : isOb μ kp (.ref a)) (h87 : μ 87 = .inl (0, 30, .inl tr)) (htc : tc ≤ 30) (x : Int32) : zMet G 0 M_Wb_trace [.ref 4, .int x] n u μ n u (zE (some (.int (f_trace tc tr x))) μ) := by
  unfold isOb at hob
  refine z_start (lv := [.ref 4, .int x]) K_Wb_trace rfl rfl (Nat.le_refl _) (Nat.le_refl _) (Nat.le_of_ble_eq_true rfl) rfl ?_
  refine z_al0 (pc' := 1) 0 rfl rfl ?_
  refine z_getf (pc' := 4) 1 rfl rfl f_Wb_301_11 (by assumption) (by rfl) ?_
  refine z_ifnullR (pc' := 7) 2 rfl rfl ?_
  refine z_il1 (pc' := 8) 3 rfl rfl ?_
  first | refine z_if_lt (pc' := 11) 4 rfl rfl (tgt := 31) rfl (fun h8 => ?_) (fun h8 => ?_)
  · refine z_bipush (v := (-3)) (by decide) (pc' := 33) 15 rfl rfl ?_
    exact z_ireturn 16 rfl rfl (by first | rfl | exact zbo_nar) rfl rfl (by exact ⟨by rw [f_trace, if_neg (fun z => absurd h8 (Int32.not_lt.mpr z.1))], rfl⟩)
  · refine z_il1 (pc' := 12) 5 rfl rfl ?_
    refine z_al0 (pc' := 13) 6 rfl rfl ?_
    refine z_getf (pc' := 16) 7 rfl rfl f_Wb_301_11 (by assumption) (by rfl) ?_
    refine z_getf (pc' := 19) 8 rfl rfl f_Wb_345_1 (by assumption) (by rfl) ?_
    first | refine z_icmp_ge (pc' := 22) 9 rfl rfl (tgt := 31) rfl (fun h19 => ?_) (fun h19 => ?_)
    · refine z_bipush (v := (-3)) (by decide) (pc' := 33) 15 rfl rfl ?_
      exact z_ireturn 16 rfl rfl (by first | rfl | exact zbo_nar) rfl rfl (by exact ⟨by rw [f_trace, if_neg (fun z => absurd z.2 (Int32.not_lt.mpr h19))], rfl⟩)
    · obtain ⟨j, hj, rfl⟩ := z_in (x := x) (k := tc) ⟨Int32.not_lt.mp h8, Int32.not_le.mp h19⟩ (by omega)
      refine z_al0 (pc' := 23) 10 rfl rfl ?_
      refine z_getf (pc' := 26) 11 rfl rfl f_Wb_66_11 (by assumption) (by rfl) ?_
      refine z_il1 (pc' := 27) 12 rfl rfl ?_
      refine z_iald (pc' := 28) 13 rfl rfl (by assumption) (by omega) (by decide) ?_
      refine z_goto 14 rfl (tgt := 33) rfl ?_
      exact z_ireturn 16 rfl rfl (by first | rfl | exact zbo_nar) rfl rfl (by exact ⟨by rw [f_trace, if_pos ⟨Int32.not_lt.mp h8, Int32.not_le.mp h19⟩, tN_n (by omega)], rfl⟩)
set_option maxHeartbeats 4000000 in
set_option maxRecDepth 100000 in
theorem c_Wb_trace_10 {G : zG} {n u : Nat} {μ : Nat → va_E} {kp : Int32} {tc : Nat} {tr : Nat → Int32} {a : Nat} {p1 p2 p3 : Int32} (h_a : μ a = .inr (10, [.int p1, .int p2, .ref 87, .int (nI tc), .int p3])) (hob : isOb μ kp (.ref a)) (h87 : μ 87 = .inl (0, 30, .inl tr)) (htc : tc ≤ 30) (x : Int32) : zMet G 0 M_Wb_trace [.ref 4, .int x] n u μ n u (zE (some (.int (f_trace tc tr x))) μ) := by
  unfold isOb at hob
  refine z_start (lv := [.ref 4, .int x]) K_Wb_trace rfl rfl (Nat.le_refl _) (Nat.le_refl _) (Nat.le_of_ble_eq_true rfl) rfl ?_
  refine z_al0 (pc' := 1) 0 rfl rfl ?_
  refine z_getf (pc' := 4) 1 rfl rfl f_Wb_301_11 (by assumption) (by rfl) ?_
  refine z_ifnullR (pc' := 7) 2 rfl rfl ?_
  refine z_il1 (pc' := 8) 3 rfl rfl ?_
  first | refine z_if_lt (pc' := 11) 4 rfl rfl (tgt := 31) rfl (fun h8 => ?_) (fun h8 => ?_)
  · refine z_bipush (v := (-3)) (by decide) (pc' := 33) 15 rfl rfl ?_
    exact z_ireturn 16 rfl rfl (by first | rfl | exact zbo_nar) rfl rfl (by exact ⟨by rw [f_trace, if_neg (fun z => absurd h8 (Int32.not_lt.mpr z.1))], rfl⟩)
  · refine z_il1 (pc' := 12) 5 rfl rfl ?_
    refine z_al0 (pc' := 13) 6 rfl rfl ?_
    refine z_getf (pc' := 16) 7 rfl rfl f_Wb_301_11 (by assumption) (by rfl) ?_
    refine z_getf (pc' := 19) 8 rfl rfl f_Wb_345_10 (by assumption) (by rfl) ?_
    first | refine z_icmp_ge (pc' := 22) 9 rfl rfl (tgt := 31) rfl (fun h19 => ?_) (fun h19 => ?_)
    · refine z_bipush (v := (-3)) (by decide) (pc' := 33) 15 rfl rfl ?_
      exact z_ireturn 16 rfl rfl (by first | rfl | exact zbo_nar) rfl rfl (by exact ⟨by rw [f_trace, if_neg (fun z => absurd z.2 (Int32.not_lt.mpr h19))], rfl⟩)
    · obtain ⟨j, hj, rfl⟩ := z_in (x := x) (k := tc) ⟨Int32.not_lt.mp h8, Int32.not_le.mp h19⟩ (by omega)
      refine z_al0 (pc' := 23) 10 rfl rfl ?_
      refine z_getf (pc' := 26) 11 rfl rfl f_Wb_66_11 (by assumption) (by rfl) ?_
      refine z_il1 (pc' := 27) 12 rfl rfl ?_
      refine z_iald (pc' := 28) 13 rfl rfl (by assumption) (by omega) (by decide) ?_
      refine z_goto 14 rfl (tgt := 33) rfl ?_
      exact z_ireturn 16 rfl rfl (by first | rfl | exact zbo_nar) rfl rfl (by exact ⟨by rw [f_trace, if_pos ⟨Int32.not_lt.mp h8, Int32.not_le.mp h19⟩, tN_n (by omega)], rfl⟩)
set_option maxHeartbeats 4000000 in
set_option maxRecDepth 100000 in
theorem c_Wb_trace_6 {G : zG} {n u : Nat} {μ : Nat → va_E} {kp : Int32} {tc : Nat} {tr : Nat → Int32} {a : Nat} {p1 p2 p3 : Int32} (h_a : μ a = .inr (6, [.int p1, .int p2, .ref 87, .int (nI tc), .int p3])) (hob : isOb μ kp (.ref a)) (h87 : μ 87 = .inl (0, 30, .inl tr)) (htc : tc ≤ 30) (x : Int32) : zMet G 0 M_Wb_trace [.ref 4, .int x] n u μ n u (zE (some (.int (f_trace tc tr x))) μ) := by
  unfold isOb at hob
  refine z_start (lv := [.ref 4, .int x]) K_Wb_trace rfl rfl (Nat.le_refl _) (Nat.le_refl _) (Nat.le_of_ble_eq_true rfl) rfl ?_
  refine z_al0 (pc' := 1) 0 rfl rfl ?_
  refine z_getf (pc' := 4) 1 rfl rfl f_Wb_301_11 (by assumption) (by rfl) ?_
  refine z_ifnullR (pc' := 7) 2 rfl rfl ?_
  refine z_il1 (pc' := 8) 3 rfl rfl ?_
  first | refine z_if_lt (pc' := 11) 4 rfl rfl (tgt := 31) rfl (fun h8 => ?_) (fun h8 => ?_)
  · refine z_bipush (v := (-3)) (by decide) (pc' := 33) 15 rfl rfl ?_
    exact z_ireturn 16 rfl rfl (by first | rfl | exact zbo_nar) rfl rfl (by exact ⟨by rw [f_trace, if_neg (fun z => absurd h8 (Int32.not_lt.mpr z.1))], rfl⟩)
  · refine z_il1 (pc' := 12) 5 rfl rfl ?_
    refine z_al0 (pc' := 13) 6 rfl rfl ?_
    refine z_getf (pc' := 16) 7 rfl rfl f_Wb_301_11 (by assumption) (by rfl) ?_
    refine z_getf (pc' := 19) 8 rfl rfl f_Wb_345_6 (by assumption) (by rfl) ?_
    first | refine z_icmp_ge (pc' := 22) 9 rfl rfl (tgt := 31) rfl (fun h19 => ?_) (fun h19 => ?_)
    · refine z_bipush (v := (-3)) (by decide) (pc' := 33) 15 rfl rfl ?_
      exact z_ireturn 16 rfl rfl (by first | rfl | exact zbo_nar) rfl rfl (by exact ⟨by rw [f_trace, if_neg (fun z => absurd z.2 (Int32.not_lt.mpr h19))], rfl⟩)
    · obtain ⟨j, hj, rfl⟩ := z_in (x := x) (k := tc) ⟨Int32.not_lt.mp h8, Int32.not_le.mp h19⟩ (by omega)
      refine z_al0 (pc' := 23) 10 rfl rfl ?_
      refine z_getf (pc' := 26) 11 rfl rfl f_Wb_66_11 (by assumption) (by rfl) ?_
      refine z_il1 (pc' := 27) 12 rfl rfl ?_
      refine z_iald (pc' := 28) 13 rfl rfl (by assumption) (by omega) (by decide) ?_
      refine z_goto 14 rfl (tgt := 33) rfl ?_
      exact z_ireturn 16 rfl rfl (by first | rfl | exact zbo_nar) rfl rfl (by exact ⟨by rw [f_trace, if_pos ⟨Int32.not_lt.mp h8, Int32.not_le.mp h19⟩, tN_n (by omega)], rfl⟩)
set_option maxHeartbeats 4000000 in
set_option maxRecDepth 100000 in
theorem c_Wb_trace_2 {G : zG} {n u : Nat} {μ : Nat → va_E} {kp : Int32} {tc : Nat} {tr : Nat → Int32} {a : Nat} {p1 p2 p3 : Int32} (h_a : μ a = .inr (2, [.int p1, .int p2, .ref 87, .int (nI tc), .int p3])) (hob : isOb μ kp (.ref a)) (h87 : μ 87 = .inl (0, 30, .inl tr)) (htc : tc ≤ 30) (x : Int32) : zMet G 0 M_Wb_trace [.ref 4, .int x] n u μ n u (zE (some (.int (f_trace tc tr x))) μ) := by
  unfold isOb at hob
  refine z_start (lv := [.ref 4, .int x]) K_Wb_trace rfl rfl (Nat.le_refl _) (Nat.le_refl _) (Nat.le_of_ble_eq_true rfl) rfl ?_
  refine z_al0 (pc' := 1) 0 rfl rfl ?_
  refine z_getf (pc' := 4) 1 rfl rfl f_Wb_301_11 (by assumption) (by rfl) ?_
  refine z_ifnullR (pc' := 7) 2 rfl rfl ?_
  refine z_il1 (pc' := 8) 3 rfl rfl ?_
  first | refine z_if_lt (pc' := 11) 4 rfl rfl (tgt := 31) rfl (fun h8 => ?_) (fun h8 => ?_)
  · refine z_bipush (v := (-3)) (by decide) (pc' := 33) 15 rfl rfl ?_
    exact z_ireturn 16 rfl rfl (by first | rfl | exact zbo_nar) rfl rfl (by exact ⟨by rw [f_trace, if_neg (fun z => absurd h8 (Int32.not_lt.mpr z.1))], rfl⟩)
  · refine z_il1 (pc' := 12) 5 rfl rfl ?_
    refine z_al0 (pc' := 13) 6 rfl rfl ?_
    refine z_getf (pc' := 16) 7 rfl rfl f_Wb_301_11 (by assumption) (by rfl) ?_
    refine z_getf (pc' := 19) 8 rfl rfl f_Wb_345_2 (by assumption) (by rfl) ?_
    first | refine z_icmp_ge (pc' := 22) 9 rfl rfl (tgt := 31) rfl (fun h19 => ?_) (fun h19 => ?_)
    · refine z_bipush (v := (-3)) (by decide) (pc' := 33) 15 rfl rfl ?_
      exact z_ireturn 16 rfl rfl (by first | rfl | exact zbo_nar) rfl rfl (by exact ⟨by rw [f_trace, if_neg (fun z => absurd z.2 (Int32.not_lt.mpr h19))], rfl⟩)
    · obtain ⟨j, hj, rfl⟩ := z_in (x := x) (k := tc) ⟨Int32.not_lt.mp h8, Int32.not_le.mp h19⟩ (by omega)
      refine z_al0 (pc' := 23) 10 rfl rfl ?_
      refine z_getf (pc' := 26) 11 rfl rfl f_Wb_66_11 (by assumption) (by rfl) ?_
      refine z_il1 (pc' := 27) 12 rfl rfl ?_
      refine z_iald (pc' := 28) 13 rfl rfl (by assumption) (by omega) (by decide) ?_
      refine z_goto 14 rfl (tgt := 33) rfl ?_
      exact z_ireturn 16 rfl rfl (by first | rfl | exact zbo_nar) rfl rfl (by exact ⟨by rw [f_trace, if_pos ⟨Int32.not_lt.mp h8, Int32.not_le.mp h19⟩, tN_n (by omega)], rfl⟩)
theorem c_Wb_trace {G : zG} {n u : Nat} {μ : Nat → va_E} {kp : Int32} {ac : Value} {tc : Nat} {tr : Nat → Int32} (hob : isOb μ kp ac) (h87 : μ 87 = .inl (0, 30, .inl tr)) (htc : tc ≤ 30) (hac : isAc μ ac tc) (x : Int32) : zMet G 0 M_Wb_trace [.ref 4, .int x] n u μ n u (zE (some (.int (f_trace tc tr x))) μ) := by
  rcases hac with ⟨rfl, rfl⟩ | ⟨a, ci, p1, p2, p3, rfl, hci, -, ha⟩
  · rw [show f_trace 0 tr x = -3 from if_neg (fun z => absurd (Int32.lt_of_le_of_lt z.1 z.2) (by decide))]
    exact c_Wb_trace_N hob h87 htc x
  · rcases hci with e | e | e | e | e | e <;> subst e
    · exact c_Wb_trace_5 ha hob h87 htc x
    · exact c_Wb_trace_8 ha hob h87 htc x
    · exact c_Wb_trace_1 ha hob h87 htc x
    · exact c_Wb_trace_10 ha hob h87 htc x
    · exact c_Wb_trace_6 ha hob h87 htc x
    · exact c_Wb_trace_2 ha hob h87 htc x
theorem c_pset13 {G : zG} {n u : Nat} {μ : Nat → va_E} {S : Nat → Nat → Nat} {sc ch : Int32} {mo cs : Nat} {pr fa q : Nat → Nat} (hco : isCo μ S sc ch) (h13 : isCr μ 13 mo cs pr fa q) (hi : iS S) (hp : ∀ j, pr j ≤ 6) : zMet G 0 M_Cr_promisedSet [.ref 13, .ref 5] n u μ n u (zE (some (.int (nI (psN pr (S 0 0))))) μ) := by
  have h := c_Cr_promisedSet (G := G) (n := n) (u := u) (ν := μ) (a := 13) (mo := mo) (cs := cs) (fa := fa) (q := q) hco hi (Or.inl rfl) hp
  rw [pcr_id h13] at h
  exact h
set_option maxHeartbeats 4000000 in
set_option maxRecDepth 100000 in
theorem c_Wb_many_N {G : zG} {n u : Nat} {μ : Nat → va_E} {κ : zκ} {kp : Int32} {tc R ln : Nat} {rw : Nat → Int32} {fs : List Value} (h : cst μ κ) (hob : isOb μ kp .null) (hpl : isPl μ R rw) (h47 : μ 47 = .inr (9, .int (nI ln) :: fs)) (x : Int32) : zMet G 1 M_Wb_many [.ref 4, .int x] n u μ n u (zE (some (.int (f_many κ R ln 0 x))) μ) := by
  obtain ⟨S, mo, pr, fa, sc, ch, rc, D⟩ := κ
  obtain ⟨h1, ⟨cs, q, h2⟩, ⟨β, its, h3, h3a, h3b⟩, ⟨c23, h4⟩, h5⟩ := h
  obtain ⟨hi, hx, hmo, hrc⟩ := h5
  obtain ⟨f, ba, acx, cr, ψ, bh, h56, h57, h58, h59, h60, hbh, h5c, hf7, hR⟩ := hpl
  have hc5 := h1.1
  have hb17 := h3.1
  rw [h3b] at hb17
  unfold obP at h56
  rw [hf7] at h56
  unfold isOb at hob
  have h13 := h2.1
  have hp9 := psN_lt pr (S 0 0) hi.1
  refine z_start (lv := [.ref 4, .int x]) K_Wb_many rfl rfl (Nat.le_refl _) (Nat.le_refl _) (Nat.le_of_ble_eq_true rfl) rfl ?_
  refine z_il1 (pc' := 1) 0 rfl rfl ?_
  first | refine z_swN (by omega) 0 (by decide) (fun h1_0 => ?_) (fun h1_0 => ?_) | refine z_sw 0 (fun h1_0 => ?_) (fun h1_0 => ?_)
  · refine z_tableIn 1 rfl (by decide) (by decide) (off := 47) rfl (tgt := 48) rfl ?_
    refine z_al0 (pc' := 49) 2 rfl rfl ?_
    refine z_getf (pc' := 52) 3 rfl rfl f_Wb_10_11 (by assumption) (by rfl) ?_
    refine z_getf (pc' := 55) 4 rfl rfl f_Wb_76_3 (by assumption) (by rfl) ?_
    exact z_ireturn 5 rfl rfl (by first | rfl | exact zbo_nar) rfl rfl (by exact ⟨by rw [f_many, if_pos h1_0], rfl⟩)
  first | refine z_swN (by omega) 1 (by decide) (fun h1_1 => ?_) (fun h1_1 => ?_) | refine z_sw 1 (fun h1_1 => ?_) (fun h1_1 => ?_)
  · refine z_tableIn 1 rfl (by decide) (by decide) (off := 55) rfl (tgt := 56) rfl ?_
    refine z_al0 (pc' := 57) 6 rfl rfl ?_
    refine z_getf (pc' := 60) 7 rfl rfl f_Wb_10_11 (by assumption) (by rfl) ?_
    refine z_getr (pc' := 63) 8 rfl rfl f_Wb_170_3 (by assumption) (by rfl) ?_
    refine z_getf (pc' := 66) 9 rfl rfl f_Wb_348_0 (by assumption) (by rfl) ?_
    exact z_ireturn 10 rfl rfl (by first | rfl | exact zbo_nar) rfl rfl (by exact ⟨by rw [f_many, if_neg h1_0, if_pos h1_1], rfl⟩)
  first | refine z_swN (by omega) 2 (by decide) (fun h1_2 => ?_) (fun h1_2 => ?_) | refine z_sw 2 (fun h1_2 => ?_) (fun h1_2 => ?_)
  · refine z_tableIn 1 rfl (by decide) (by decide) (off := 66) rfl (tgt := 67) rfl ?_
    refine z_al0 (pc' := 68) 11 rfl rfl ?_
    refine z_getf (pc' := 71) 12 rfl rfl f_Wb_10_11 (by assumption) (by rfl) ?_
    refine z_getf (pc' := 74) 13 rfl rfl f_Wb_110_3 (by assumption) (by rfl) ?_
    exact z_ireturn 14 rfl rfl (by first | rfl | exact zbo_nar) rfl rfl (by exact ⟨by rw [f_many, if_neg h1_0, if_neg h1_1, if_pos h1_2], rfl⟩)
  first | refine z_swN (by omega) 3 (by decide) (fun h1_3 => ?_) (fun h1_3 => ?_) | refine z_sw 3 (fun h1_3 => ?_) (fun h1_3 => ?_)
  · refine z_tableIn 1 rfl (by decide) (by decide) (off := 74) rfl (tgt := 75) rfl ?_
    refine z_al0 (pc' := 76) 15 rfl rfl ?_
    refine z_getf (pc' := 79) 16 rfl rfl f_Wb_10_11 (by assumption) (by rfl) ?_
    refine z_getf (pc' := 82) 17 rfl rfl f_Wb_241_3 (by assumption) (by rfl) ?_
    exact z_ireturn 18 rfl rfl (by first | rfl | exact zbo_nar) rfl rfl (by exact ⟨by rw [f_many, if_neg h1_0, if_neg h1_1, if_neg h1_2, if_pos h1_3], rfl⟩)
  first | refine z_swN (by omega) 4 (by decide) (fun h1_4 => ?_) (fun h1_4 => ?_) | refine z_sw 4 (fun h1_4 => ?_) (fun h1_4 => ?_)
  · refine z_tableIn 1 rfl (by decide) (by decide) (off := 82) rfl (tgt := 83) rfl ?_
    refine z_al0 (pc' := 84) 19 rfl rfl ?_
    refine z_getf (pc' := 87) 20 rfl rfl f_Wb_43_11 (by assumption) (by rfl) ?_
    refine z_getf (pc' := 90) 21 rfl rfl f_Wb_351_7 (by assumption) (by rfl) ?_
    exact z_ireturn 22 rfl rfl (by first | rfl | exact zbo_nar) rfl rfl (by exact ⟨by rw [f_many, if_neg h1_0, if_neg h1_1, if_neg h1_2, if_neg h1_3, if_pos h1_4], rfl⟩)
  first | refine z_swN (by omega) 5 (by decide) (fun h1_5 => ?_) (fun h1_5 => ?_) | refine z_sw 5 (fun h1_5 => ?_) (fun h1_5 => ?_)
  · refine z_tableIn 1 rfl (by decide) (by decide) (off := 90) rfl (tgt := 91) rfl ?_
    refine z_al0 (pc' := 92) 23 rfl rfl ?_
    refine z_getf (pc' := 95) 24 rfl rfl f_Wb_29_11 (by assumption) (by rfl) ?_
    refine z_getf (pc' := 98) 25 rfl rfl f_Wb_354_9 (by assumption) (by rfl) ?_
    exact z_ireturn 26 rfl rfl (by first | rfl | exact zbo_nar) rfl rfl (by exact ⟨by rw [f_many, if_neg h1_0, if_neg h1_1, if_neg h1_2, if_neg h1_3, if_neg h1_4, if_pos h1_5], rfl⟩)
  first | refine z_swN (by omega) 6 (by decide) (fun h1_6 => ?_) (fun h1_6 => ?_) | refine z_sw 6 (fun h1_6 => ?_) (fun h1_6 => ?_)
  · refine z_tableIn 1 rfl (by decide) (by decide) (off := 98) rfl (tgt := 99) rfl ?_
    refine z_al0 (pc' := 100) 27 rfl rfl ?_
    refine z_getf (pc' := 103) 28 rfl rfl f_Wb_301_11 (by assumption) (by rfl) ?_
    refine z_ifnonnullN (pc' := 106) 29 rfl rfl ?_
    refine z_iconst (v := nI 0) (by decide) (pc' := 107) 30 rfl rfl ?_
    refine z_goto 31 rfl (tgt := 117) rfl ?_
    exact z_ireturn 35 rfl rfl (by first | rfl | exact zbo_nar) rfl rfl (by exact ⟨by rw [f_many, if_neg h1_0, if_neg h1_1, if_neg h1_2, if_neg h1_3, if_neg h1_4, if_neg h1_5, if_pos h1_6], rfl⟩)
  first | refine z_swN (by omega) 7 (by decide) (fun h1_7 => ?_) (fun h1_7 => ?_) | refine z_sw 7 (fun h1_7 => ?_) (fun h1_7 => ?_)
  · refine z_tableIn 1 rfl (by decide) (by decide) (off := 117) rfl (tgt := 118) rfl ?_
    refine z_al0 (pc' := 119) 36 rfl rfl ?_
    refine z_getf (pc' := 122) 37 rfl rfl f_Wb_10_11 (by assumption) (by rfl) ?_
    refine z_getr (pc' := 125) 38 rfl rfl f_Wb_97_3 (by assumption) (by rfl) ?_
    refine z_al0 (pc' := 126) 39 rfl rfl ?_
    refine z_getf (pc' := 129) 40 rfl rfl f_Wb_10_11 (by assumption) (by rfl) ?_
    refine z_callV1 (pc' := 132) 41 rfl rfl k_Wb_357 (by assumption) (c_pset13 h1 h2 hi (fun j => (hx j).1)) (by decide) (Nat.le_refl _) (Nat.le_refl _) rfl rfl (Nat.le_of_ble_eq_true rfl) ?_
    refine z_callS1 (pc' := 135) 42 rfl rfl k_Wb_360 (c_Ji_bitCount (Nat.lt_of_lt_of_eq hp9 rfl)) (by decide) (Nat.le_refl _) (Nat.le_refl _) rfl rfl (Nat.le_of_ble_eq_true rfl) ?_
    exact z_ireturn 43 rfl rfl (by first | rfl | exact zbo_nar) rfl rfl (by exact ⟨by rw [f_many, if_neg h1_0, if_neg h1_1, if_neg h1_2, if_neg h1_3, if_neg h1_4, if_neg h1_5, if_neg h1_6, if_pos h1_7], rfl⟩)
  refine z_tableOut 1 rfl (by first | (rw [nI_toInt (by omega)]; omega) | (have e0 := z_ne (by decide) h1_0; have e1 := z_ne (by decide) h1_1; have e2 := z_ne (by decide) h1_2; have e3 := z_ne (by decide) h1_3; have e4 := z_ne (by decide) h1_4; have e5 := z_ne (by decide) h1_5; have e6 := z_ne (by decide) h1_6; have e7 := z_ne (by decide) h1_7; omega)) (tgt := 136) rfl ?_
  refine z_iconst (v := (-1)) (by decide) (pc' := 137) 44 rfl rfl ?_
  exact z_ireturn 45 rfl rfl (by first | rfl | exact zbo_nar) rfl rfl (by exact ⟨by rw [f_many, if_neg h1_0, if_neg h1_1, if_neg h1_2, if_neg h1_3, if_neg h1_4, if_neg h1_5, if_neg h1_6, if_neg h1_7], rfl⟩)
set_option maxHeartbeats 4000000 in
set_option maxRecDepth 100000 in
theorem c_Wb_many_5 {G : zG} {n u : Nat} {μ : Nat → va_E} {κ : zκ} {kp : Int32} {tc R ln : Nat} {rw : Nat → Int32} {fs : List Value} {a : Nat} {p1 p2 p3 : Int32} (h_a : μ a = .inr (5, [.int p1, .int p2, .ref 87, .int (nI tc), .int p3])) (h : cst μ κ) (hob : isOb μ kp (.ref a)) (hpl : isPl μ R rw) (h47 : μ 47 = .inr (9, .int (nI ln) :: fs)) (x : Int32) : zMet G 1 M_Wb_many [.ref 4, .int x] n u μ n u (zE (some (.int (f_many κ R ln tc x))) μ) := by
  obtain ⟨S, mo, pr, fa, sc, ch, rc, D⟩ := κ
  obtain ⟨h1, ⟨cs, q, h2⟩, ⟨β, its, h3, h3a, h3b⟩, ⟨c23, h4⟩, h5⟩ := h
  obtain ⟨hi, hx, hmo, hrc⟩ := h5
  obtain ⟨f, ba, acx, cr, ψ, bh, h56, h57, h58, h59, h60, hbh, h5c, hf7, hR⟩ := hpl
  have hc5 := h1.1
  have hb17 := h3.1
  rw [h3b] at hb17
  unfold obP at h56
  rw [hf7] at h56
  unfold isOb at hob
  have h13 := h2.1
  have hp9 := psN_lt pr (S 0 0) hi.1
  refine z_start (lv := [.ref 4, .int x]) K_Wb_many rfl rfl (Nat.le_refl _) (Nat.le_refl _) (Nat.le_of_ble_eq_true rfl) rfl ?_
  refine z_il1 (pc' := 1) 0 rfl rfl ?_
  first | refine z_swN (by omega) 0 (by decide) (fun h1_0 => ?_) (fun h1_0 => ?_) | refine z_sw 0 (fun h1_0 => ?_) (fun h1_0 => ?_)
  · refine z_tableIn 1 rfl (by decide) (by decide) (off := 47) rfl (tgt := 48) rfl ?_
    refine z_al0 (pc' := 49) 2 rfl rfl ?_
    refine z_getf (pc' := 52) 3 rfl rfl f_Wb_10_11 (by assumption) (by rfl) ?_
    refine z_getf (pc' := 55) 4 rfl rfl f_Wb_76_3 (by assumption) (by rfl) ?_
    exact z_ireturn 5 rfl rfl (by first | rfl | exact zbo_nar) rfl rfl (by exact ⟨by rw [f_many, if_pos h1_0], rfl⟩)
  first | refine z_swN (by omega) 1 (by decide) (fun h1_1 => ?_) (fun h1_1 => ?_) | refine z_sw 1 (fun h1_1 => ?_) (fun h1_1 => ?_)
  · refine z_tableIn 1 rfl (by decide) (by decide) (off := 55) rfl (tgt := 56) rfl ?_
    refine z_al0 (pc' := 57) 6 rfl rfl ?_
    refine z_getf (pc' := 60) 7 rfl rfl f_Wb_10_11 (by assumption) (by rfl) ?_
    refine z_getr (pc' := 63) 8 rfl rfl f_Wb_170_3 (by assumption) (by rfl) ?_
    refine z_getf (pc' := 66) 9 rfl rfl f_Wb_348_0 (by assumption) (by rfl) ?_
    exact z_ireturn 10 rfl rfl (by first | rfl | exact zbo_nar) rfl rfl (by exact ⟨by rw [f_many, if_neg h1_0, if_pos h1_1], rfl⟩)
  first | refine z_swN (by omega) 2 (by decide) (fun h1_2 => ?_) (fun h1_2 => ?_) | refine z_sw 2 (fun h1_2 => ?_) (fun h1_2 => ?_)
  · refine z_tableIn 1 rfl (by decide) (by decide) (off := 66) rfl (tgt := 67) rfl ?_
    refine z_al0 (pc' := 68) 11 rfl rfl ?_
    refine z_getf (pc' := 71) 12 rfl rfl f_Wb_10_11 (by assumption) (by rfl) ?_
    refine z_getf (pc' := 74) 13 rfl rfl f_Wb_110_3 (by assumption) (by rfl) ?_
    exact z_ireturn 14 rfl rfl (by first | rfl | exact zbo_nar) rfl rfl (by exact ⟨by rw [f_many, if_neg h1_0, if_neg h1_1, if_pos h1_2], rfl⟩)
  first | refine z_swN (by omega) 3 (by decide) (fun h1_3 => ?_) (fun h1_3 => ?_) | refine z_sw 3 (fun h1_3 => ?_) (fun h1_3 => ?_)
  · refine z_tableIn 1 rfl (by decide) (by decide) (off := 74) rfl (tgt := 75) rfl ?_
    refine z_al0 (pc' := 76) 15 rfl rfl ?_
    refine z_getf (pc' := 79) 16 rfl rfl f_Wb_10_11 (by assumption) (by rfl) ?_
    refine z_getf (pc' := 82) 17 rfl rfl f_Wb_241_3 (by assumption) (by rfl) ?_
    exact z_ireturn 18 rfl rfl (by first | rfl | exact zbo_nar) rfl rfl (by exact ⟨by rw [f_many, if_neg h1_0, if_neg h1_1, if_neg h1_2, if_pos h1_3], rfl⟩)
  first | refine z_swN (by omega) 4 (by decide) (fun h1_4 => ?_) (fun h1_4 => ?_) | refine z_sw 4 (fun h1_4 => ?_) (fun h1_4 => ?_)
  · refine z_tableIn 1 rfl (by decide) (by decide) (off := 82) rfl (tgt := 83) rfl ?_
    refine z_al0 (pc' := 84) 19 rfl rfl ?_
    refine z_getf (pc' := 87) 20 rfl rfl f_Wb_43_11 (by assumption) (by rfl) ?_
    refine z_getf (pc' := 90) 21 rfl rfl f_Wb_351_7 (by assumption) (by rfl) ?_
    exact z_ireturn 22 rfl rfl (by first | rfl | exact zbo_nar) rfl rfl (by exact ⟨by rw [f_many, if_neg h1_0, if_neg h1_1, if_neg h1_2, if_neg h1_3, if_pos h1_4], rfl⟩)
  first | refine z_swN (by omega) 5 (by decide) (fun h1_5 => ?_) (fun h1_5 => ?_) | refine z_sw 5 (fun h1_5 => ?_) (fun h1_5 => ?_)
  · refine z_tableIn 1 rfl (by decide) (by decide) (off := 90) rfl (tgt := 91) rfl ?_
    refine z_al0 (pc' := 92) 23 rfl rfl ?_
    refine z_getf (pc' := 95) 24 rfl rfl f_Wb_29_11 (by assumption) (by rfl) ?_
    refine z_getf (pc' := 98) 25 rfl rfl f_Wb_354_9 (by assumption) (by rfl) ?_
    exact z_ireturn 26 rfl rfl (by first | rfl | exact zbo_nar) rfl rfl (by exact ⟨by rw [f_many, if_neg h1_0, if_neg h1_1, if_neg h1_2, if_neg h1_3, if_neg h1_4, if_pos h1_5], rfl⟩)
  first | refine z_swN (by omega) 6 (by decide) (fun h1_6 => ?_) (fun h1_6 => ?_) | refine z_sw 6 (fun h1_6 => ?_) (fun h1_6 => ?_)
  · refine z_tableIn 1 rfl (by decide) (by decide) (off := 98) rfl (tgt := 99) rfl ?_
    refine z_al0 (pc' := 100) 27 rfl rfl ?_
    refine z_getf (pc' := 103) 28 rfl rfl f_Wb_301_11 (by assumption) (by rfl) ?_
    refine z_ifnonnullR 29 rfl (tgt := 110) rfl ?_
    refine z_al0 (pc' := 111) 32 rfl rfl ?_
    refine z_getf (pc' := 114) 33 rfl rfl f_Wb_301_11 (by assumption) (by rfl) ?_
    refine z_getf (pc' := 117) 34 rfl rfl f_Wb_345_5 (by assumption) (by rfl) ?_
    exact z_ireturn 35 rfl rfl (by first | rfl | exact zbo_nar) rfl rfl (by exact ⟨by rw [f_many, if_neg h1_0, if_neg h1_1, if_neg h1_2, if_neg h1_3, if_neg h1_4, if_neg h1_5, if_pos h1_6], rfl⟩)
  first | refine z_swN (by omega) 7 (by decide) (fun h1_7 => ?_) (fun h1_7 => ?_) | refine z_sw 7 (fun h1_7 => ?_) (fun h1_7 => ?_)
  · refine z_tableIn 1 rfl (by decide) (by decide) (off := 117) rfl (tgt := 118) rfl ?_
    refine z_al0 (pc' := 119) 36 rfl rfl ?_
    refine z_getf (pc' := 122) 37 rfl rfl f_Wb_10_11 (by assumption) (by rfl) ?_
    refine z_getr (pc' := 125) 38 rfl rfl f_Wb_97_3 (by assumption) (by rfl) ?_
    refine z_al0 (pc' := 126) 39 rfl rfl ?_
    refine z_getf (pc' := 129) 40 rfl rfl f_Wb_10_11 (by assumption) (by rfl) ?_
    refine z_callV1 (pc' := 132) 41 rfl rfl k_Wb_357 (by assumption) (c_pset13 h1 h2 hi (fun j => (hx j).1)) (by decide) (Nat.le_refl _) (Nat.le_refl _) rfl rfl (Nat.le_of_ble_eq_true rfl) ?_
    refine z_callS1 (pc' := 135) 42 rfl rfl k_Wb_360 (c_Ji_bitCount (Nat.lt_of_lt_of_eq hp9 rfl)) (by decide) (Nat.le_refl _) (Nat.le_refl _) rfl rfl (Nat.le_of_ble_eq_true rfl) ?_
    exact z_ireturn 43 rfl rfl (by first | rfl | exact zbo_nar) rfl rfl (by exact ⟨by rw [f_many, if_neg h1_0, if_neg h1_1, if_neg h1_2, if_neg h1_3, if_neg h1_4, if_neg h1_5, if_neg h1_6, if_pos h1_7], rfl⟩)
  refine z_tableOut 1 rfl (by first | (rw [nI_toInt (by omega)]; omega) | (have e0 := z_ne (by decide) h1_0; have e1 := z_ne (by decide) h1_1; have e2 := z_ne (by decide) h1_2; have e3 := z_ne (by decide) h1_3; have e4 := z_ne (by decide) h1_4; have e5 := z_ne (by decide) h1_5; have e6 := z_ne (by decide) h1_6; have e7 := z_ne (by decide) h1_7; omega)) (tgt := 136) rfl ?_
  refine z_iconst (v := (-1)) (by decide) (pc' := 137) 44 rfl rfl ?_
  exact z_ireturn 45 rfl rfl (by first | rfl | exact zbo_nar) rfl rfl (by exact ⟨by rw [f_many, if_neg h1_0, if_neg h1_1, if_neg h1_2, if_neg h1_3, if_neg h1_4, if_neg h1_5, if_neg h1_6, if_neg h1_7], rfl⟩)
set_option maxHeartbeats 4000000 in
set_option maxRecDepth 100000 in
theorem c_Wb_many_8 {G : zG} {n u : Nat} {μ : Nat → va_E} {κ : zκ} {kp : Int32} {tc R ln : Nat} {rw : Nat → Int32} {fs : List Value} {a : Nat} {p1 p2 p3 : Int32} (h_a : μ a = .inr (8, [.int p1, .int p2, .ref 87, .int (nI tc), .int p3])) (h : cst μ κ) (hob : isOb μ kp (.ref a)) (hpl : isPl μ R rw) (h47 : μ 47 = .inr (9, .int (nI ln) :: fs)) (x : Int32) : zMet G 1 M_Wb_many [.ref 4, .int x] n u μ n u (zE (some (.int (f_many κ R ln tc x))) μ) := by
  obtain ⟨S, mo, pr, fa, sc, ch, rc, D⟩ := κ
  obtain ⟨h1, ⟨cs, q, h2⟩, ⟨β, its, h3, h3a, h3b⟩, ⟨c23, h4⟩, h5⟩ := h
  obtain ⟨hi, hx, hmo, hrc⟩ := h5
  obtain ⟨f, ba, acx, cr, ψ, bh, h56, h57, h58, h59, h60, hbh, h5c, hf7, hR⟩ := hpl
  have hc5 := h1.1
  have hb17 := h3.1
  rw [h3b] at hb17
  unfold obP at h56
  rw [hf7] at h56
  unfold isOb at hob
  have h13 := h2.1
  have hp9 := psN_lt pr (S 0 0) hi.1
  refine z_start (lv := [.ref 4, .int x]) K_Wb_many rfl rfl (Nat.le_refl _) (Nat.le_refl _) (Nat.le_of_ble_eq_true rfl) rfl ?_
  refine z_il1 (pc' := 1) 0 rfl rfl ?_
  first | refine z_swN (by omega) 0 (by decide) (fun h1_0 => ?_) (fun h1_0 => ?_) | refine z_sw 0 (fun h1_0 => ?_) (fun h1_0 => ?_)
  · refine z_tableIn 1 rfl (by decide) (by decide) (off := 47) rfl (tgt := 48) rfl ?_
    refine z_al0 (pc' := 49) 2 rfl rfl ?_
    refine z_getf (pc' := 52) 3 rfl rfl f_Wb_10_11 (by assumption) (by rfl) ?_
    refine z_getf (pc' := 55) 4 rfl rfl f_Wb_76_3 (by assumption) (by rfl) ?_
    exact z_ireturn 5 rfl rfl (by first | rfl | exact zbo_nar) rfl rfl (by exact ⟨by rw [f_many, if_pos h1_0], rfl⟩)
  first | refine z_swN (by omega) 1 (by decide) (fun h1_1 => ?_) (fun h1_1 => ?_) | refine z_sw 1 (fun h1_1 => ?_) (fun h1_1 => ?_)
  · refine z_tableIn 1 rfl (by decide) (by decide) (off := 55) rfl (tgt := 56) rfl ?_
    refine z_al0 (pc' := 57) 6 rfl rfl ?_
    refine z_getf (pc' := 60) 7 rfl rfl f_Wb_10_11 (by assumption) (by rfl) ?_
    refine z_getr (pc' := 63) 8 rfl rfl f_Wb_170_3 (by assumption) (by rfl) ?_
    refine z_getf (pc' := 66) 9 rfl rfl f_Wb_348_0 (by assumption) (by rfl) ?_
    exact z_ireturn 10 rfl rfl (by first | rfl | exact zbo_nar) rfl rfl (by exact ⟨by rw [f_many, if_neg h1_0, if_pos h1_1], rfl⟩)
  first | refine z_swN (by omega) 2 (by decide) (fun h1_2 => ?_) (fun h1_2 => ?_) | refine z_sw 2 (fun h1_2 => ?_) (fun h1_2 => ?_)
  · refine z_tableIn 1 rfl (by decide) (by decide) (off := 66) rfl (tgt := 67) rfl ?_
    refine z_al0 (pc' := 68) 11 rfl rfl ?_
    refine z_getf (pc' := 71) 12 rfl rfl f_Wb_10_11 (by assumption) (by rfl) ?_
    refine z_getf (pc' := 74) 13 rfl rfl f_Wb_110_3 (by assumption) (by rfl) ?_
    exact z_ireturn 14 rfl rfl (by first | rfl | exact zbo_nar) rfl rfl (by exact ⟨by rw [f_many, if_neg h1_0, if_neg h1_1, if_pos h1_2], rfl⟩)
  first | refine z_swN (by omega) 3 (by decide) (fun h1_3 => ?_) (fun h1_3 => ?_) | refine z_sw 3 (fun h1_3 => ?_) (fun h1_3 => ?_)
  · refine z_tableIn 1 rfl (by decide) (by decide) (off := 74) rfl (tgt := 75) rfl ?_
    refine z_al0 (pc' := 76) 15 rfl rfl ?_
    refine z_getf (pc' := 79) 16 rfl rfl f_Wb_10_11 (by assumption) (by rfl) ?_
    refine z_getf (pc' := 82) 17 rfl rfl f_Wb_241_3 (by assumption) (by rfl) ?_
    exact z_ireturn 18 rfl rfl (by first | rfl | exact zbo_nar) rfl rfl (by exact ⟨by rw [f_many, if_neg h1_0, if_neg h1_1, if_neg h1_2, if_pos h1_3], rfl⟩)
  first | refine z_swN (by omega) 4 (by decide) (fun h1_4 => ?_) (fun h1_4 => ?_) | refine z_sw 4 (fun h1_4 => ?_) (fun h1_4 => ?_)
  · refine z_tableIn 1 rfl (by decide) (by decide) (off := 82) rfl (tgt := 83) rfl ?_
    refine z_al0 (pc' := 84) 19 rfl rfl ?_
    refine z_getf (pc' := 87) 20 rfl rfl f_Wb_43_11 (by assumption) (by rfl) ?_
    refine z_getf (pc' := 90) 21 rfl rfl f_Wb_351_7 (by assumption) (by rfl) ?_
    exact z_ireturn 22 rfl rfl (by first | rfl | exact zbo_nar) rfl rfl (by exact ⟨by rw [f_many, if_neg h1_0, if_neg h1_1, if_neg h1_2, if_neg h1_3, if_pos h1_4], rfl⟩)
  first | refine z_swN (by omega) 5 (by decide) (fun h1_5 => ?_) (fun h1_5 => ?_) | refine z_sw 5 (fun h1_5 => ?_) (fun h1_5 => ?_)
  · refine z_tableIn 1 rfl (by decide) (by decide) (off := 90) rfl (tgt := 91) rfl ?_
    refine z_al0 (pc' := 92) 23 rfl rfl ?_
    refine z_getf (pc' := 95) 24 rfl rfl f_Wb_29_11 (by assumption) (by rfl) ?_
    refine z_getf (pc' := 98) 25 rfl rfl f_Wb_354_9 (by assumption) (by rfl) ?_
    exact z_ireturn 26 rfl rfl (by first | rfl | exact zbo_nar) rfl rfl (by exact ⟨by rw [f_many, if_neg h1_0, if_neg h1_1, if_neg h1_2, if_neg h1_3, if_neg h1_4, if_pos h1_5], rfl⟩)
  first | refine z_swN (by omega) 6 (by decide) (fun h1_6 => ?_) (fun h1_6 => ?_) | refine z_sw 6 (fun h1_6 => ?_) (fun h1_6 => ?_)
  · refine z_tableIn 1 rfl (by decide) (by decide) (off := 98) rfl (tgt := 99) rfl ?_
    refine z_al0 (pc' := 100) 27 rfl rfl ?_
    refine z_getf (pc' := 103) 28 rfl rfl f_Wb_301_11 (by assumption) (by rfl) ?_
    refine z_ifnonnullR 29 rfl (tgt := 110) rfl ?_
    refine z_al0 (pc' := 111) 32 rfl rfl ?_
    refine z_getf (pc' := 114) 33 rfl rfl f_Wb_301_11 (by assumption) (by rfl) ?_
    refine z_getf (pc' := 117) 34 rfl rfl f_Wb_345_8 (by assumption) (by rfl) ?_
    exact z_ireturn 35 rfl rfl (by first | rfl | exact zbo_nar) rfl rfl (by exact ⟨by rw [f_many, if_neg h1_0, if_neg h1_1, if_neg h1_2, if_neg h1_3, if_neg h1_4, if_neg h1_5, if_pos h1_6], rfl⟩)
  first | refine z_swN (by omega) 7 (by decide) (fun h1_7 => ?_) (fun h1_7 => ?_) | refine z_sw 7 (fun h1_7 => ?_) (fun h1_7 => ?_)
  · refine z_tableIn 1 rfl (by decide) (by decide) (off := 117) rfl (tgt := 118) rfl ?_
    refine z_al0 (pc' := 119) 36 rfl rfl ?_
    refine z_getf (pc' := 122) 37 rfl rfl f_Wb_10_11 (by assumption) (by rfl) ?_
    refine z_getr (pc' := 125) 38 rfl rfl f_Wb_97_3 (by assumption) (by rfl) ?_
    refine z_al0 (pc' := 126) 39 rfl rfl ?_
    refine z_getf (pc' := 129) 40 rfl rfl f_Wb_10_11 (by assumption) (by rfl) ?_
    refine z_callV1 (pc' := 132) 41 rfl rfl k_Wb_357 (by assumption) (c_pset13 h1 h2 hi (fun j => (hx j).1)) (by decide) (Nat.le_refl _) (Nat.le_refl _) rfl rfl (Nat.le_of_ble_eq_true rfl) ?_
    refine z_callS1 (pc' := 135) 42 rfl rfl k_Wb_360 (c_Ji_bitCount (Nat.lt_of_lt_of_eq hp9 rfl)) (by decide) (Nat.le_refl _) (Nat.le_refl _) rfl rfl (Nat.le_of_ble_eq_true rfl) ?_
    exact z_ireturn 43 rfl rfl (by first | rfl | exact zbo_nar) rfl rfl (by exact ⟨by rw [f_many, if_neg h1_0, if_neg h1_1, if_neg h1_2, if_neg h1_3, if_neg h1_4, if_neg h1_5, if_neg h1_6, if_pos h1_7], rfl⟩)
  refine z_tableOut 1 rfl (by first | (rw [nI_toInt (by omega)]; omega) | (have e0 := z_ne (by decide) h1_0; have e1 := z_ne (by decide) h1_1; have e2 := z_ne (by decide) h1_2; have e3 := z_ne (by decide) h1_3; have e4 := z_ne (by decide) h1_4; have e5 := z_ne (by decide) h1_5; have e6 := z_ne (by decide) h1_6; have e7 := z_ne (by decide) h1_7; omega)) (tgt := 136) rfl ?_
  refine z_iconst (v := (-1)) (by decide) (pc' := 137) 44 rfl rfl ?_
  exact z_ireturn 45 rfl rfl (by first | rfl | exact zbo_nar) rfl rfl (by exact ⟨by rw [f_many, if_neg h1_0, if_neg h1_1, if_neg h1_2, if_neg h1_3, if_neg h1_4, if_neg h1_5, if_neg h1_6, if_neg h1_7], rfl⟩)
set_option maxHeartbeats 4000000 in
set_option maxRecDepth 100000 in
theorem c_Wb_many_1 {G : zG} {n u : Nat} {μ : Nat → va_E} {κ : zκ} {kp : Int32} {tc R ln : Nat} {rw : Nat → Int32} {fs : List Value} {a : Nat} {p1 p2 p3 : Int32} (h_a : μ a = .inr (1, [.int p1, .int p2, .ref 87, .int (nI tc), .int p3])) (h : cst μ κ) (hob : isOb μ kp (.ref a)) (hpl : isPl μ R rw) (h47 : μ 47 = .inr (9, .int (nI ln) :: fs)) (x : Int32) : zMet G 1 M_Wb_many [.ref 4, .int x] n u μ n u (zE (some (.int (f_many κ R ln tc x))) μ) := by
  obtain ⟨S, mo, pr, fa, sc, ch, rc, D⟩ := κ
  obtain ⟨h1, ⟨cs, q, h2⟩, ⟨β, its, h3, h3a, h3b⟩, ⟨c23, h4⟩, h5⟩ := h
  obtain ⟨hi, hx, hmo, hrc⟩ := h5
  obtain ⟨f, ba, acx, cr, ψ, bh, h56, h57, h58, h59, h60, hbh, h5c, hf7, hR⟩ := hpl
  have hc5 := h1.1
  have hb17 := h3.1
  rw [h3b] at hb17
  unfold obP at h56
  rw [hf7] at h56
  unfold isOb at hob
  have h13 := h2.1
  have hp9 := psN_lt pr (S 0 0) hi.1
  refine z_start (lv := [.ref 4, .int x]) K_Wb_many rfl rfl (Nat.le_refl _) (Nat.le_refl _) (Nat.le_of_ble_eq_true rfl) rfl ?_
  refine z_il1 (pc' := 1) 0 rfl rfl ?_
  first | refine z_swN (by omega) 0 (by decide) (fun h1_0 => ?_) (fun h1_0 => ?_) | refine z_sw 0 (fun h1_0 => ?_) (fun h1_0 => ?_)
  · refine z_tableIn 1 rfl (by decide) (by decide) (off := 47) rfl (tgt := 48) rfl ?_
    refine z_al0 (pc' := 49) 2 rfl rfl ?_
    refine z_getf (pc' := 52) 3 rfl rfl f_Wb_10_11 (by assumption) (by rfl) ?_
    refine z_getf (pc' := 55) 4 rfl rfl f_Wb_76_3 (by assumption) (by rfl) ?_
    exact z_ireturn 5 rfl rfl (by first | rfl | exact zbo_nar) rfl rfl (by exact ⟨by rw [f_many, if_pos h1_0], rfl⟩)
  first | refine z_swN (by omega) 1 (by decide) (fun h1_1 => ?_) (fun h1_1 => ?_) | refine z_sw 1 (fun h1_1 => ?_) (fun h1_1 => ?_)
  · refine z_tableIn 1 rfl (by decide) (by decide) (off := 55) rfl (tgt := 56) rfl ?_
    refine z_al0 (pc' := 57) 6 rfl rfl ?_
    refine z_getf (pc' := 60) 7 rfl rfl f_Wb_10_11 (by assumption) (by rfl) ?_
    refine z_getr (pc' := 63) 8 rfl rfl f_Wb_170_3 (by assumption) (by rfl) ?_
    refine z_getf (pc' := 66) 9 rfl rfl f_Wb_348_0 (by assumption) (by rfl) ?_
    exact z_ireturn 10 rfl rfl (by first | rfl | exact zbo_nar) rfl rfl (by exact ⟨by rw [f_many, if_neg h1_0, if_pos h1_1], rfl⟩)
  first | refine z_swN (by omega) 2 (by decide) (fun h1_2 => ?_) (fun h1_2 => ?_) | refine z_sw 2 (fun h1_2 => ?_) (fun h1_2 => ?_)
  · refine z_tableIn 1 rfl (by decide) (by decide) (off := 66) rfl (tgt := 67) rfl ?_
    refine z_al0 (pc' := 68) 11 rfl rfl ?_
    refine z_getf (pc' := 71) 12 rfl rfl f_Wb_10_11 (by assumption) (by rfl) ?_
    refine z_getf (pc' := 74) 13 rfl rfl f_Wb_110_3 (by assumption) (by rfl) ?_
    exact z_ireturn 14 rfl rfl (by first | rfl | exact zbo_nar) rfl rfl (by exact ⟨by rw [f_many, if_neg h1_0, if_neg h1_1, if_pos h1_2], rfl⟩)
  first | refine z_swN (by omega) 3 (by decide) (fun h1_3 => ?_) (fun h1_3 => ?_) | refine z_sw 3 (fun h1_3 => ?_) (fun h1_3 => ?_)
  · refine z_tableIn 1 rfl (by decide) (by decide) (off := 74) rfl (tgt := 75) rfl ?_
    refine z_al0 (pc' := 76) 15 rfl rfl ?_
    refine z_getf (pc' := 79) 16 rfl rfl f_Wb_10_11 (by assumption) (by rfl) ?_
    refine z_getf (pc' := 82) 17 rfl rfl f_Wb_241_3 (by assumption) (by rfl) ?_
    exact z_ireturn 18 rfl rfl (by first | rfl | exact zbo_nar) rfl rfl (by exact ⟨by rw [f_many, if_neg h1_0, if_neg h1_1, if_neg h1_2, if_pos h1_3], rfl⟩)
  first | refine z_swN (by omega) 4 (by decide) (fun h1_4 => ?_) (fun h1_4 => ?_) | refine z_sw 4 (fun h1_4 => ?_) (fun h1_4 => ?_)
  · refine z_tableIn 1 rfl (by decide) (by decide) (off := 82) rfl (tgt := 83) rfl ?_
    refine z_al0 (pc' := 84) 19 rfl rfl ?_
    refine z_getf (pc' := 87) 20 rfl rfl f_Wb_43_11 (by assumption) (by rfl) ?_
    refine z_getf (pc' := 90) 21 rfl rfl f_Wb_351_7 (by assumption) (by rfl) ?_
    exact z_ireturn 22 rfl rfl (by first | rfl | exact zbo_nar) rfl rfl (by exact ⟨by rw [f_many, if_neg h1_0, if_neg h1_1, if_neg h1_2, if_neg h1_3, if_pos h1_4], rfl⟩)
  first | refine z_swN (by omega) 5 (by decide) (fun h1_5 => ?_) (fun h1_5 => ?_) | refine z_sw 5 (fun h1_5 => ?_) (fun h1_5 => ?_)
  · refine z_tableIn 1 rfl (by decide) (by decide) (off := 90) rfl (tgt := 91) rfl ?_
    refine z_al0 (pc' := 92) 23 rfl rfl ?_
    refine z_getf (pc' := 95) 24 rfl rfl f_Wb_29_11 (by assumption) (by rfl) ?_
    refine z_getf (pc' := 98) 25 rfl rfl f_Wb_354_9 (by assumption) (by rfl) ?_
    exact z_ireturn 26 rfl rfl (by first | rfl | exact zbo_nar) rfl rfl (by exact ⟨by rw [f_many, if_neg h1_0, if_neg h1_1, if_neg h1_2, if_neg h1_3, if_neg h1_4, if_pos h1_5], rfl⟩)
  first | refine z_swN (by omega) 6 (by decide) (fun h1_6 => ?_) (fun h1_6 => ?_) | refine z_sw 6 (fun h1_6 => ?_) (fun h1_6 => ?_)
  · refine z_tableIn 1 rfl (by decide) (by decide) (off := 98) rfl (tgt := 99) rfl ?_
    refine z_al0 (pc' := 100) 27 rfl rfl ?_
    refine z_getf (pc' := 103) 28 rfl rfl f_Wb_301_11 (by assumption) (by rfl) ?_
    refine z_ifnonnullR 29 rfl (tgt := 110) rfl ?_
    refine z_al0 (pc' := 111) 32 rfl rfl ?_
    refine z_getf (pc' := 114) 33 rfl rfl f_Wb_301_11 (by assumption) (by rfl) ?_
    refine z_getf (pc' := 117) 34 rfl rfl f_Wb_345_1 (by assumption) (by rfl) ?_
    exact z_ireturn 35 rfl rfl (by first | rfl | exact zbo_nar) rfl rfl (by exact ⟨by rw [f_many, if_neg h1_0, if_neg h1_1, if_neg h1_2, if_neg h1_3, if_neg h1_4, if_neg h1_5, if_pos h1_6], rfl⟩)
  first | refine z_swN (by omega) 7 (by decide) (fun h1_7 => ?_) (fun h1_7 => ?_) | refine z_sw 7 (fun h1_7 => ?_) (fun h1_7 => ?_)
  · refine z_tableIn 1 rfl (by decide) (by decide) (off := 117) rfl (tgt := 118) rfl ?_
    refine z_al0 (pc' := 119) 36 rfl rfl ?_
    refine z_getf (pc' := 122) 37 rfl rfl f_Wb_10_11 (by assumption) (by rfl) ?_
    refine z_getr (pc' := 125) 38 rfl rfl f_Wb_97_3 (by assumption) (by rfl) ?_
    refine z_al0 (pc' := 126) 39 rfl rfl ?_
    refine z_getf (pc' := 129) 40 rfl rfl f_Wb_10_11 (by assumption) (by rfl) ?_
    refine z_callV1 (pc' := 132) 41 rfl rfl k_Wb_357 (by assumption) (c_pset13 h1 h2 hi (fun j => (hx j).1)) (by decide) (Nat.le_refl _) (Nat.le_refl _) rfl rfl (Nat.le_of_ble_eq_true rfl) ?_
    refine z_callS1 (pc' := 135) 42 rfl rfl k_Wb_360 (c_Ji_bitCount (Nat.lt_of_lt_of_eq hp9 rfl)) (by decide) (Nat.le_refl _) (Nat.le_refl _) rfl rfl (Nat.le_of_ble_eq_true rfl) ?_
    exact z_ireturn 43 rfl rfl (by first | rfl | exact zbo_nar) rfl rfl (by exact ⟨by rw [f_many, if_neg h1_0, if_neg h1_1, if_neg h1_2, if_neg h1_3, if_neg h1_4, if_neg h1_5, if_neg h1_6, if_pos h1_7], rfl⟩)
  refine z_tableOut 1 rfl (by first | (rw [nI_toInt (by omega)]; omega) | (have e0 := z_ne (by decide) h1_0; have e1 := z_ne (by decide) h1_1; have e2 := z_ne (by decide) h1_2; have e3 := z_ne (by decide) h1_3; have e4 := z_ne (by decide) h1_4; have e5 := z_ne (by decide) h1_5; have e6 := z_ne (by decide) h1_6; have e7 := z_ne (by decide) h1_7; omega)) (tgt := 136) rfl ?_
  refine z_iconst (v := (-1)) (by decide) (pc' := 137) 44 rfl rfl ?_
  exact z_ireturn 45 rfl rfl (by first | rfl | exact zbo_nar) rfl rfl (by exact ⟨by rw [f_many, if_neg h1_0, if_neg h1_1, if_neg h1_2, if_neg h1_3, if_neg h1_4, if_neg h1_5, if_neg h1_6, if_neg h1_7], rfl⟩)
set_option maxHeartbeats 4000000 in
set_option maxRecDepth 100000 in
theorem c_Wb_many_10 {G : zG} {n u : Nat} {μ : Nat → va_E} {κ : zκ} {kp : Int32} {tc R ln : Nat} {rw : Nat → Int32} {fs : List Value} {a : Nat} {p1 p2 p3 : Int32} (h_a : μ a = .inr (10, [.int p1, .int p2, .ref 87, .int (nI tc), .int p3])) (h : cst μ κ) (hob : isOb μ kp (.ref a)) (hpl : isPl μ R rw) (h47 : μ 47 = .inr (9, .int (nI ln) :: fs)) (x : Int32) : zMet G 1 M_Wb_many [.ref 4, .int x] n u μ n u (zE (some (.int (f_many κ R ln tc x))) μ) := by
  obtain ⟨S, mo, pr, fa, sc, ch, rc, D⟩ := κ
  obtain ⟨h1, ⟨cs, q, h2⟩, ⟨β, its, h3, h3a, h3b⟩, ⟨c23, h4⟩, h5⟩ := h
  obtain ⟨hi, hx, hmo, hrc⟩ := h5
  obtain ⟨f, ba, acx, cr, ψ, bh, h56, h57, h58, h59, h60, hbh, h5c, hf7, hR⟩ := hpl
  have hc5 := h1.1
  have hb17 := h3.1
  rw [h3b] at hb17
  unfold obP at h56
  rw [hf7] at h56
  unfold isOb at hob
  have h13 := h2.1
  have hp9 := psN_lt pr (S 0 0) hi.1
  refine z_start (lv := [.ref 4, .int x]) K_Wb_many rfl rfl (Nat.le_refl _) (Nat.le_refl _) (Nat.le_of_ble_eq_true rfl) rfl ?_
  refine z_il1 (pc' := 1) 0 rfl rfl ?_
  first | refine z_swN (by omega) 0 (by decide) (fun h1_0 => ?_) (fun h1_0 => ?_) | refine z_sw 0 (fun h1_0 => ?_) (fun h1_0 => ?_)
  · refine z_tableIn 1 rfl (by decide) (by decide) (off := 47) rfl (tgt := 48) rfl ?_
    refine z_al0 (pc' := 49) 2 rfl rfl ?_
    refine z_getf (pc' := 52) 3 rfl rfl f_Wb_10_11 (by assumption) (by rfl) ?_
    refine z_getf (pc' := 55) 4 rfl rfl f_Wb_76_3 (by assumption) (by rfl) ?_
    exact z_ireturn 5 rfl rfl (by first | rfl | exact zbo_nar) rfl rfl (by exact ⟨by rw [f_many, if_pos h1_0], rfl⟩)
  first | refine z_swN (by omega) 1 (by decide) (fun h1_1 => ?_) (fun h1_1 => ?_) | refine z_sw 1 (fun h1_1 => ?_) (fun h1_1 => ?_)
  · refine z_tableIn 1 rfl (by decide) (by decide) (off := 55) rfl (tgt := 56) rfl ?_
    refine z_al0 (pc' := 57) 6 rfl rfl ?_
    refine z_getf (pc' := 60) 7 rfl rfl f_Wb_10_11 (by assumption) (by rfl) ?_
    refine z_getr (pc' := 63) 8 rfl rfl f_Wb_170_3 (by assumption) (by rfl) ?_
    refine z_getf (pc' := 66) 9 rfl rfl f_Wb_348_0 (by assumption) (by rfl) ?_
    exact z_ireturn 10 rfl rfl (by first | rfl | exact zbo_nar) rfl rfl (by exact ⟨by rw [f_many, if_neg h1_0, if_pos h1_1], rfl⟩)
  first | refine z_swN (by omega) 2 (by decide) (fun h1_2 => ?_) (fun h1_2 => ?_) | refine z_sw 2 (fun h1_2 => ?_) (fun h1_2 => ?_)
  · refine z_tableIn 1 rfl (by decide) (by decide) (off := 66) rfl (tgt := 67) rfl ?_
    refine z_al0 (pc' := 68) 11 rfl rfl ?_
    refine z_getf (pc' := 71) 12 rfl rfl f_Wb_10_11 (by assumption) (by rfl) ?_
    refine z_getf (pc' := 74) 13 rfl rfl f_Wb_110_3 (by assumption) (by rfl) ?_
    exact z_ireturn 14 rfl rfl (by first | rfl | exact zbo_nar) rfl rfl (by exact ⟨by rw [f_many, if_neg h1_0, if_neg h1_1, if_pos h1_2], rfl⟩)
  first | refine z_swN (by omega) 3 (by decide) (fun h1_3 => ?_) (fun h1_3 => ?_) | refine z_sw 3 (fun h1_3 => ?_) (fun h1_3 => ?_)
  · refine z_tableIn 1 rfl (by decide) (by decide) (off := 74) rfl (tgt := 75) rfl ?_
    refine z_al0 (pc' := 76) 15 rfl rfl ?_
    refine z_getf (pc' := 79) 16 rfl rfl f_Wb_10_11 (by assumption) (by rfl) ?_
    refine z_getf (pc' := 82) 17 rfl rfl f_Wb_241_3 (by assumption) (by rfl) ?_
    exact z_ireturn 18 rfl rfl (by first | rfl | exact zbo_nar) rfl rfl (by exact ⟨by rw [f_many, if_neg h1_0, if_neg h1_1, if_neg h1_2, if_pos h1_3], rfl⟩)
  first | refine z_swN (by omega) 4 (by decide) (fun h1_4 => ?_) (fun h1_4 => ?_) | refine z_sw 4 (fun h1_4 => ?_) (fun h1_4 => ?_)
  · refine z_tableIn 1 rfl (by decide) (by decide) (off := 82) rfl (tgt := 83) rfl ?_
    refine z_al0 (pc' := 84) 19 rfl rfl ?_
    refine z_getf (pc' := 87) 20 rfl rfl f_Wb_43_11 (by assumption) (by rfl) ?_
    refine z_getf (pc' := 90) 21 rfl rfl f_Wb_351_7 (by assumption) (by rfl) ?_
    exact z_ireturn 22 rfl rfl (by first | rfl | exact zbo_nar) rfl rfl (by exact ⟨by rw [f_many, if_neg h1_0, if_neg h1_1, if_neg h1_2, if_neg h1_3, if_pos h1_4], rfl⟩)
  first | refine z_swN (by omega) 5 (by decide) (fun h1_5 => ?_) (fun h1_5 => ?_) | refine z_sw 5 (fun h1_5 => ?_) (fun h1_5 => ?_)
  · refine z_tableIn 1 rfl (by decide) (by decide) (off := 90) rfl (tgt := 91) rfl ?_
    refine z_al0 (pc' := 92) 23 rfl rfl ?_
    refine z_getf (pc' := 95) 24 rfl rfl f_Wb_29_11 (by assumption) (by rfl) ?_
    refine z_getf (pc' := 98) 25 rfl rfl f_Wb_354_9 (by assumption) (by rfl) ?_
    exact z_ireturn 26 rfl rfl (by first | rfl | exact zbo_nar) rfl rfl (by exact ⟨by rw [f_many, if_neg h1_0, if_neg h1_1, if_neg h1_2, if_neg h1_3, if_neg h1_4, if_pos h1_5], rfl⟩)
  first | refine z_swN (by omega) 6 (by decide) (fun h1_6 => ?_) (fun h1_6 => ?_) | refine z_sw 6 (fun h1_6 => ?_) (fun h1_6 => ?_)
  · refine z_tableIn 1 rfl (by decide) (by decide) (off := 98) rfl (tgt := 99) rfl ?_
    refine z_al0 (pc' := 100) 27 rfl rfl ?_
    refine z_getf (pc' := 103) 28 rfl rfl f_Wb_301_11 (by assumption) (by rfl) ?_
    refine z_ifnonnullR 29 rfl (tgt := 110) rfl ?_
    refine z_al0 (pc' := 111) 32 rfl rfl ?_
    refine z_getf (pc' := 114) 33 rfl rfl f_Wb_301_11 (by assumption) (by rfl) ?_
    refine z_getf (pc' := 117) 34 rfl rfl f_Wb_345_10 (by assumption) (by rfl) ?_
    exact z_ireturn 35 rfl rfl (by first | rfl | exact zbo_nar) rfl rfl (by exact ⟨by rw [f_many, if_neg h1_0, if_neg h1_1, if_neg h1_2, if_neg h1_3, if_neg h1_4, if_neg h1_5, if_pos h1_6], rfl⟩)
  first | refine z_swN (by omega) 7 (by decide) (fun h1_7 => ?_) (fun h1_7 => ?_) | refine z_sw 7 (fun h1_7 => ?_) (fun h1_7 => ?_)
  · refine z_tableIn 1 rfl (by decide) (by decide) (off := 117) rfl (tgt := 118) rfl ?_
    refine z_al0 (pc' := 119) 36 rfl rfl ?_
    refine z_getf (pc' := 122) 37 rfl rfl f_Wb_10_11 (by assumption) (by rfl) ?_
    refine z_getr (pc' := 125) 38 rfl rfl f_Wb_97_3 (by assumption) (by rfl) ?_
    refine z_al0 (pc' := 126) 39 rfl rfl ?_
    refine z_getf (pc' := 129) 40 rfl rfl f_Wb_10_11 (by assumption) (by rfl) ?_
    refine z_callV1 (pc' := 132) 41 rfl rfl k_Wb_357 (by assumption) (c_pset13 h1 h2 hi (fun j => (hx j).1)) (by decide) (Nat.le_refl _) (Nat.le_refl _) rfl rfl (Nat.le_of_ble_eq_true rfl) ?_
    refine z_callS1 (pc' := 135) 42 rfl rfl k_Wb_360 (c_Ji_bitCount (Nat.lt_of_lt_of_eq hp9 rfl)) (by decide) (Nat.le_refl _) (Nat.le_refl _) rfl rfl (Nat.le_of_ble_eq_true rfl) ?_
    exact z_ireturn 43 rfl rfl (by first | rfl | exact zbo_nar) rfl rfl (by exact ⟨by rw [f_many, if_neg h1_0, if_neg h1_1, if_neg h1_2, if_neg h1_3, if_neg h1_4, if_neg h1_5, if_neg h1_6, if_pos h1_7], rfl⟩)
  refine z_tableOut 1 rfl (by first | (rw [nI_toInt (by omega)]; omega) | (have e0 := z_ne (by decide) h1_0; have e1 := z_ne (by decide) h1_1; have e2 := z_ne (by decide) h1_2; have e3 := z_ne (by decide) h1_3; have e4 := z_ne (by decide) h1_4; have e5 := z_ne (by decide) h1_5; have e6 := z_ne (by decide) h1_6; have e7 := z_ne (by decide) h1_7; omega)) (tgt := 136) rfl ?_
  refine z_iconst (v := (-1)) (by decide) (pc' := 137) 44 rfl rfl ?_
  exact z_ireturn 45 rfl rfl (by first | rfl | exact zbo_nar) rfl rfl (by exact ⟨by rw [f_many, if_neg h1_0, if_neg h1_1, if_neg h1_2, if_neg h1_3, if_neg h1_4, if_neg h1_5, if_neg h1_6, if_neg h1_7], rfl⟩)
set_option maxHeartbeats 4000000 in
set_option maxRecDepth 100000 in
theorem c_Wb_many_6 {G : zG} {n u : Nat} {μ : Nat → va_E} {κ : zκ} {kp : Int32} {tc R ln : Nat} {rw : Nat → Int32} {fs : List Value} {a : Nat} {p1 p2 p3 : Int32} (h_a : μ a = .inr (6, [.int p1, .int p2, .ref 87, .int (nI tc), .int p3])) (h : cst μ κ) (hob : isOb μ kp (.ref a)) (hpl : isPl μ R rw) (h47 : μ 47 = .inr (9, .int (nI ln) :: fs)) (x : Int32) : zMet G 1 M_Wb_many [.ref 4, .int x] n u μ n u (zE (some (.int (f_many κ R ln tc x))) μ) := by
  obtain ⟨S, mo, pr, fa, sc, ch, rc, D⟩ := κ
  obtain ⟨h1, ⟨cs, q, h2⟩, ⟨β, its, h3, h3a, h3b⟩, ⟨c23, h4⟩, h5⟩ := h
  obtain ⟨hi, hx, hmo, hrc⟩ := h5
  obtain ⟨f, ba, acx, cr, ψ, bh, h56, h57, h58, h59, h60, hbh, h5c, hf7, hR⟩ := hpl
  have hc5 := h1.1
  have hb17 := h3.1
  rw [h3b] at hb17
  unfold obP at h56
  rw [hf7] at h56
  unfold isOb at hob
  have h13 := h2.1
  have hp9 := psN_lt pr (S 0 0) hi.1
  refine z_start (lv := [.ref 4, .int x]) K_Wb_many rfl rfl (Nat.le_refl _) (Nat.le_refl _) (Nat.le_of_ble_eq_true rfl) rfl ?_
  refine z_il1 (pc' := 1) 0 rfl rfl ?_
  first | refine z_swN (by omega) 0 (by decide) (fun h1_0 => ?_) (fun h1_0 => ?_) | refine z_sw 0 (fun h1_0 => ?_) (fun h1_0 => ?_)
  · refine z_tableIn 1 rfl (by decide) (by decide) (off := 47) rfl (tgt := 48) rfl ?_
    refine z_al0 (pc' := 49) 2 rfl rfl ?_
    refine z_getf (pc' := 52) 3 rfl rfl f_Wb_10_11 (by assumption) (by rfl) ?_
    refine z_getf (pc' := 55) 4 rfl rfl f_Wb_76_3 (by assumption) (by rfl) ?_
    exact z_ireturn 5 rfl rfl (by first | rfl | exact zbo_nar) rfl rfl (by exact ⟨by rw [f_many, if_pos h1_0], rfl⟩)
  first | refine z_swN (by omega) 1 (by decide) (fun h1_1 => ?_) (fun h1_1 => ?_) | refine z_sw 1 (fun h1_1 => ?_) (fun h1_1 => ?_)
  · refine z_tableIn 1 rfl (by decide) (by decide) (off := 55) rfl (tgt := 56) rfl ?_
    refine z_al0 (pc' := 57) 6 rfl rfl ?_
    refine z_getf (pc' := 60) 7 rfl rfl f_Wb_10_11 (by assumption) (by rfl) ?_
    refine z_getr (pc' := 63) 8 rfl rfl f_Wb_170_3 (by assumption) (by rfl) ?_
    refine z_getf (pc' := 66) 9 rfl rfl f_Wb_348_0 (by assumption) (by rfl) ?_
    exact z_ireturn 10 rfl rfl (by first | rfl | exact zbo_nar) rfl rfl (by exact ⟨by rw [f_many, if_neg h1_0, if_pos h1_1], rfl⟩)
  first | refine z_swN (by omega) 2 (by decide) (fun h1_2 => ?_) (fun h1_2 => ?_) | refine z_sw 2 (fun h1_2 => ?_) (fun h1_2 => ?_)
  · refine z_tableIn 1 rfl (by decide) (by decide) (off := 66) rfl (tgt := 67) rfl ?_
    refine z_al0 (pc' := 68) 11 rfl rfl ?_
    refine z_getf (pc' := 71) 12 rfl rfl f_Wb_10_11 (by assumption) (by rfl) ?_
    refine z_getf (pc' := 74) 13 rfl rfl f_Wb_110_3 (by assumption) (by rfl) ?_
    exact z_ireturn 14 rfl rfl (by first | rfl | exact zbo_nar) rfl rfl (by exact ⟨by rw [f_many, if_neg h1_0, if_neg h1_1, if_pos h1_2], rfl⟩)
  first | refine z_swN (by omega) 3 (by decide) (fun h1_3 => ?_) (fun h1_3 => ?_) | refine z_sw 3 (fun h1_3 => ?_) (fun h1_3 => ?_)
  · refine z_tableIn 1 rfl (by decide) (by decide) (off := 74) rfl (tgt := 75) rfl ?_
    refine z_al0 (pc' := 76) 15 rfl rfl ?_
    refine z_getf (pc' := 79) 16 rfl rfl f_Wb_10_11 (by assumption) (by rfl) ?_
    refine z_getf (pc' := 82) 17 rfl rfl f_Wb_241_3 (by assumption) (by rfl) ?_
    exact z_ireturn 18 rfl rfl (by first | rfl | exact zbo_nar) rfl rfl (by exact ⟨by rw [f_many, if_neg h1_0, if_neg h1_1, if_neg h1_2, if_pos h1_3], rfl⟩)
  first | refine z_swN (by omega) 4 (by decide) (fun h1_4 => ?_) (fun h1_4 => ?_) | refine z_sw 4 (fun h1_4 => ?_) (fun h1_4 => ?_)
  · refine z_tableIn 1 rfl (by decide) (by decide) (off := 82) rfl (tgt := 83) rfl ?_
    refine z_al0 (pc' := 84) 19 rfl rfl ?_
    refine z_getf (pc' := 87) 20 rfl rfl f_Wb_43_11 (by assumption) (by rfl) ?_
    refine z_getf (pc' := 90) 21 rfl rfl f_Wb_351_7 (by assumption) (by rfl) ?_
    exact z_ireturn 22 rfl rfl (by first | rfl | exact zbo_nar) rfl rfl (by exact ⟨by rw [f_many, if_neg h1_0, if_neg h1_1, if_neg h1_2, if_neg h1_3, if_pos h1_4], rfl⟩)
  first | refine z_swN (by omega) 5 (by decide) (fun h1_5 => ?_) (fun h1_5 => ?_) | refine z_sw 5 (fun h1_5 => ?_) (fun h1_5 => ?_)
  · refine z_tableIn 1 rfl (by decide) (by decide) (off := 90) rfl (tgt := 91) rfl ?_
    refine z_al0 (pc' := 92) 23 rfl rfl ?_
    refine z_getf (pc' := 95) 24 rfl rfl f_Wb_29_11 (by assumption) (by rfl) ?_
    refine z_getf (pc' := 98) 25 rfl rfl f_Wb_354_9 (by assumption) (by rfl) ?_
    exact z_ireturn 26 rfl rfl (by first | rfl | exact zbo_nar) rfl rfl (by exact ⟨by rw [f_many, if_neg h1_0, if_neg h1_1, if_neg h1_2, if_neg h1_3, if_neg h1_4, if_pos h1_5], rfl⟩)
  first | refine z_swN (by omega) 6 (by decide) (fun h1_6 => ?_) (fun h1_6 => ?_) | refine z_sw 6 (fun h1_6 => ?_) (fun h1_6 => ?_)
  · refine z_tableIn 1 rfl (by decide) (by decide) (off := 98) rfl (tgt := 99) rfl ?_
    refine z_al0 (pc' := 100) 27 rfl rfl ?_
    refine z_getf (pc' := 103) 28 rfl rfl f_Wb_301_11 (by assumption) (by rfl) ?_
    refine z_ifnonnullR 29 rfl (tgt := 110) rfl ?_
    refine z_al0 (pc' := 111) 32 rfl rfl ?_
    refine z_getf (pc' := 114) 33 rfl rfl f_Wb_301_11 (by assumption) (by rfl) ?_
    refine z_getf (pc' := 117) 34 rfl rfl f_Wb_345_6 (by assumption) (by rfl) ?_
    exact z_ireturn 35 rfl rfl (by first | rfl | exact zbo_nar) rfl rfl (by exact ⟨by rw [f_many, if_neg h1_0, if_neg h1_1, if_neg h1_2, if_neg h1_3, if_neg h1_4, if_neg h1_5, if_pos h1_6], rfl⟩)
  first | refine z_swN (by omega) 7 (by decide) (fun h1_7 => ?_) (fun h1_7 => ?_) | refine z_sw 7 (fun h1_7 => ?_) (fun h1_7 => ?_)
  · refine z_tableIn 1 rfl (by decide) (by decide) (off := 117) rfl (tgt := 118) rfl ?_
    refine z_al0 (pc' := 119) 36 rfl rfl ?_
    refine z_getf (pc' := 122) 37 rfl rfl f_Wb_10_11 (by assumption) (by rfl) ?_
    refine z_getr (pc' := 125) 38 rfl rfl f_Wb_97_3 (by assumption) (by rfl) ?_
    refine z_al0 (pc' := 126) 39 rfl rfl ?_
    refine z_getf (pc' := 129) 40 rfl rfl f_Wb_10_11 (by assumption) (by rfl) ?_
    refine z_callV1 (pc' := 132) 41 rfl rfl k_Wb_357 (by assumption) (c_pset13 h1 h2 hi (fun j => (hx j).1)) (by decide) (Nat.le_refl _) (Nat.le_refl _) rfl rfl (Nat.le_of_ble_eq_true rfl) ?_
    refine z_callS1 (pc' := 135) 42 rfl rfl k_Wb_360 (c_Ji_bitCount (Nat.lt_of_lt_of_eq hp9 rfl)) (by decide) (Nat.le_refl _) (Nat.le_refl _) rfl rfl (Nat.le_of_ble_eq_true rfl) ?_
    exact z_ireturn 43 rfl rfl (by first | rfl | exact zbo_nar) rfl rfl (by exact ⟨by rw [f_many, if_neg h1_0, if_neg h1_1, if_neg h1_2, if_neg h1_3, if_neg h1_4, if_neg h1_5, if_neg h1_6, if_pos h1_7], rfl⟩)
  refine z_tableOut 1 rfl (by first | (rw [nI_toInt (by omega)]; omega) | (have e0 := z_ne (by decide) h1_0; have e1 := z_ne (by decide) h1_1; have e2 := z_ne (by decide) h1_2; have e3 := z_ne (by decide) h1_3; have e4 := z_ne (by decide) h1_4; have e5 := z_ne (by decide) h1_5; have e6 := z_ne (by decide) h1_6; have e7 := z_ne (by decide) h1_7; omega)) (tgt := 136) rfl ?_
  refine z_iconst (v := (-1)) (by decide) (pc' := 137) 44 rfl rfl ?_
  exact z_ireturn 45 rfl rfl (by first | rfl | exact zbo_nar) rfl rfl (by exact ⟨by rw [f_many, if_neg h1_0, if_neg h1_1, if_neg h1_2, if_neg h1_3, if_neg h1_4, if_neg h1_5, if_neg h1_6, if_neg h1_7], rfl⟩)
set_option maxHeartbeats 4000000 in
set_option maxRecDepth 100000 in
theorem c_Wb_many_2 {G : zG} {n u : Nat} {μ : Nat → va_E} {κ : zκ} {kp : Int32} {tc R ln : Nat} {rw : Nat → Int32} {fs : List Value} {a : Nat} {p1 p2 p3 : Int32} (h_a : μ a = .inr (2, [.int p1, .int p2, .ref 87, .int (nI tc), .int p3])) (h : cst μ κ) (hob : isOb μ kp (.ref a)) (hpl : isPl μ R rw) (h47 : μ 47 = .inr (9, .int (nI ln) :: fs)) (x : Int32) : zMet G 1 M_Wb_many [.ref 4, .int x] n u μ n u (zE (some (.int (f_many κ R ln tc x))) μ) := by
  obtain ⟨S, mo, pr, fa, sc, ch, rc, D⟩ := κ
  obtain ⟨h1, ⟨cs, q, h2⟩, ⟨β, its, h3, h3a, h3b⟩, ⟨c23, h4⟩, h5⟩ := h
  obtain ⟨hi, hx, hmo, hrc⟩ := h5
  obtain ⟨f, ba, acx, cr, ψ, bh, h56, h57, h58, h59, h60, hbh, h5c, hf7, hR⟩ := hpl
  have hc5 := h1.1
  have hb17 := h3.1
  rw [h3b] at hb17
  unfold obP at h56
  rw [hf7] at h56
  unfold isOb at hob
  have h13 := h2.1
  have hp9 := psN_lt pr (S 0 0) hi.1
  refine z_start (lv := [.ref 4, .int x]) K_Wb_many rfl rfl (Nat.le_refl _) (Nat.le_refl _) (Nat.le_of_ble_eq_true rfl) rfl ?_
  refine z_il1 (pc' := 1) 0 rfl rfl ?_
  first | refine z_swN (by omega) 0 (by decide) (fun h1_0 => ?_) (fun h1_0 => ?_) | refine z_sw 0 (fun h1_0 => ?_) (fun h1_0 => ?_)
  · refine z_tableIn 1 rfl (by decide) (by decide) (off := 47) rfl (tgt := 48) rfl ?_
    refine z_al0 (pc' := 49) 2 rfl rfl ?_
    refine z_getf (pc' := 52) 3 rfl rfl f_Wb_10_11 (by assumption) (by rfl) ?_
    refine z_getf (pc' := 55) 4 rfl rfl f_Wb_76_3 (by assumption) (by rfl) ?_
    exact z_ireturn 5 rfl rfl (by first | rfl | exact zbo_nar) rfl rfl (by exact ⟨by rw [f_many, if_pos h1_0], rfl⟩)
  first | refine z_swN (by omega) 1 (by decide) (fun h1_1 => ?_) (fun h1_1 => ?_) | refine z_sw 1 (fun h1_1 => ?_) (fun h1_1 => ?_)
  · refine z_tableIn 1 rfl (by decide) (by decide) (off := 55) rfl (tgt := 56) rfl ?_
    refine z_al0 (pc' := 57) 6 rfl rfl ?_
    refine z_getf (pc' := 60) 7 rfl rfl f_Wb_10_11 (by assumption) (by rfl) ?_
    refine z_getr (pc' := 63) 8 rfl rfl f_Wb_170_3 (by assumption) (by rfl) ?_
    refine z_getf (pc' := 66) 9 rfl rfl f_Wb_348_0 (by assumption) (by rfl) ?_
    exact z_ireturn 10 rfl rfl (by first | rfl | exact zbo_nar) rfl rfl (by exact ⟨by rw [f_many, if_neg h1_0, if_pos h1_1], rfl⟩)
  first | refine z_swN (by omega) 2 (by decide) (fun h1_2 => ?_) (fun h1_2 => ?_) | refine z_sw 2 (fun h1_2 => ?_) (fun h1_2 => ?_)
  · refine z_tableIn 1 rfl (by decide) (by decide) (off := 66) rfl (tgt := 67) rfl ?_
    refine z_al0 (pc' := 68) 11 rfl rfl ?_
    refine z_getf (pc' := 71) 12 rfl rfl f_Wb_10_11 (by assumption) (by rfl) ?_
    refine z_getf (pc' := 74) 13 rfl rfl f_Wb_110_3 (by assumption) (by rfl) ?_
    exact z_ireturn 14 rfl rfl (by first | rfl | exact zbo_nar) rfl rfl (by exact ⟨by rw [f_many, if_neg h1_0, if_neg h1_1, if_pos h1_2], rfl⟩)
  first | refine z_swN (by omega) 3 (by decide) (fun h1_3 => ?_) (fun h1_3 => ?_) | refine z_sw 3 (fun h1_3 => ?_) (fun h1_3 => ?_)
  · refine z_tableIn 1 rfl (by decide) (by decide) (off := 74) rfl (tgt := 75) rfl ?_
    refine z_al0 (pc' := 76) 15 rfl rfl ?_
    refine z_getf (pc' := 79) 16 rfl rfl f_Wb_10_11 (by assumption) (by rfl) ?_
    refine z_getf (pc' := 82) 17 rfl rfl f_Wb_241_3 (by assumption) (by rfl) ?_
    exact z_ireturn 18 rfl rfl (by first | rfl | exact zbo_nar) rfl rfl (by exact ⟨by rw [f_many, if_neg h1_0, if_neg h1_1, if_neg h1_2, if_pos h1_3], rfl⟩)
  first | refine z_swN (by omega) 4 (by decide) (fun h1_4 => ?_) (fun h1_4 => ?_) | refine z_sw 4 (fun h1_4 => ?_) (fun h1_4 => ?_)
  · refine z_tableIn 1 rfl (by decide) (by decide) (off := 82) rfl (tgt := 83) rfl ?_
    refine z_al0 (pc' := 84) 19 rfl rfl ?_
    refine z_getf (pc' := 87) 20 rfl rfl f_Wb_43_11 (by assumption) (by rfl) ?_
    refine z_getf (pc' := 90) 21 rfl rfl f_Wb_351_7 (by assumption) (by rfl) ?_
    exact z_ireturn 22 rfl rfl (by first | rfl | exact zbo_nar) rfl rfl (by exact ⟨by rw [f_many, if_neg h1_0, if_neg h1_1, if_neg h1_2, if_neg h1_3, if_pos h1_4], rfl⟩)
  first | refine z_swN (by omega) 5 (by decide) (fun h1_5 => ?_) (fun h1_5 => ?_) | refine z_sw 5 (fun h1_5 => ?_) (fun h1_5 => ?_)
  · refine z_tableIn 1 rfl (by decide) (by decide) (off := 90) rfl (tgt := 91) rfl ?_
    refine z_al0 (pc' := 92) 23 rfl rfl ?_
    refine z_getf (pc' := 95) 24 rfl rfl f_Wb_29_11 (by assumption) (by rfl) ?_
    refine z_getf (pc' := 98) 25 rfl rfl f_Wb_354_9 (by assumption) (by rfl) ?_
    exact z_ireturn 26 rfl rfl (by first | rfl | exact zbo_nar) rfl rfl (by exact ⟨by rw [f_many, if_neg h1_0, if_neg h1_1, if_neg h1_2, if_neg h1_3, if_neg h1_4, if_pos h1_5], rfl⟩)
  first | refine z_swN (by omega) 6 (by decide) (fun h1_6 => ?_) (fun h1_6 => ?_) | refine z_sw 6 (fun h1_6 => ?_) (fun h1_6 => ?_)
  · refine z_tableIn 1 rfl (by decide) (by decide) (off := 98) rfl (tgt := 99) rfl ?_
    refine z_al0 (pc' := 100) 27 rfl rfl ?_
    refine z_getf (pc' := 103) 28 rfl rfl f_Wb_301_11 (by assumption) (by rfl) ?_
    refine z_ifnonnullR 29 rfl (tgt := 110) rfl ?_
    refine z_al0 (pc' := 111) 32 rfl rfl ?_
    refine z_getf (pc' := 114) 33 rfl rfl f_Wb_301_11 (by assumption) (by rfl) ?_
    refine z_getf (pc' := 117) 34 rfl rfl f_Wb_345_2 (by assumption) (by rfl) ?_
    exact z_ireturn 35 rfl rfl (by first | rfl | exact zbo_nar) rfl rfl (by exact ⟨by rw [f_many, if_neg h1_0, if_neg h1_1, if_neg h1_2, if_neg h1_3, if_neg h1_4, if_neg h1_5, if_pos h1_6], rfl⟩)
  first | refine z_swN (by omega) 7 (by decide) (fun h1_7 => ?_) (fun h1_7 => ?_) | refine z_sw 7 (fun h1_7 => ?_) (fun h1_7 => ?_)
  · refine z_tableIn 1 rfl (by decide) (by decide) (off := 117) rfl (tgt := 118) rfl ?_
    refine z_al0 (pc' := 119) 36 rfl rfl ?_
    refine z_getf (pc' := 122) 37 rfl rfl f_Wb_10_11 (by assumption) (by rfl) ?_
    refine z_getr (pc' := 125) 38 rfl rfl f_Wb_97_3 (by assumption) (by rfl) ?_
    refine z_al0 (pc' := 126) 39 rfl rfl ?_
    refine z_getf (pc' := 129) 40 rfl rfl f_Wb_10_11 (by assumption) (by rfl) ?_
    refine z_callV1 (pc' := 132) 41 rfl rfl k_Wb_357 (by assumption) (c_pset13 h1 h2 hi (fun j => (hx j).1)) (by decide) (Nat.le_refl _) (Nat.le_refl _) rfl rfl (Nat.le_of_ble_eq_true rfl) ?_
    refine z_callS1 (pc' := 135) 42 rfl rfl k_Wb_360 (c_Ji_bitCount (Nat.lt_of_lt_of_eq hp9 rfl)) (by decide) (Nat.le_refl _) (Nat.le_refl _) rfl rfl (Nat.le_of_ble_eq_true rfl) ?_
    exact z_ireturn 43 rfl rfl (by first | rfl | exact zbo_nar) rfl rfl (by exact ⟨by rw [f_many, if_neg h1_0, if_neg h1_1, if_neg h1_2, if_neg h1_3, if_neg h1_4, if_neg h1_5, if_neg h1_6, if_pos h1_7], rfl⟩)
  refine z_tableOut 1 rfl (by first | (rw [nI_toInt (by omega)]; omega) | (have e0 := z_ne (by decide) h1_0; have e1 := z_ne (by decide) h1_1; have e2 := z_ne (by decide) h1_2; have e3 := z_ne (by decide) h1_3; have e4 := z_ne (by decide) h1_4; have e5 := z_ne (by decide) h1_5; have e6 := z_ne (by decide) h1_6; have e7 := z_ne (by decide) h1_7; omega)) (tgt := 136) rfl ?_
  refine z_iconst (v := (-1)) (by decide) (pc' := 137) 44 rfl rfl ?_
  exact z_ireturn 45 rfl rfl (by first | rfl | exact zbo_nar) rfl rfl (by exact ⟨by rw [f_many, if_neg h1_0, if_neg h1_1, if_neg h1_2, if_neg h1_3, if_neg h1_4, if_neg h1_5, if_neg h1_6, if_neg h1_7], rfl⟩)
theorem c_Wb_many {G : zG} {n u : Nat} {μ : Nat → va_E} {κ : zκ} {kp : Int32} {ac : Value} {tc R ln : Nat} {rw : Nat → Int32} {fs : List Value} (h : cst μ κ) (hob : isOb μ kp ac) (hpl : isPl μ R rw) (h47 : μ 47 = .inr (9, .int (nI ln) :: fs)) (hac : isAc μ ac tc) (x : Int32) : zMet G 1 M_Wb_many [.ref 4, .int x] n u μ n u (zE (some (.int (f_many κ R ln tc x))) μ) := by
  rcases hac with ⟨rfl, rfl⟩ | ⟨a, ci, p1, p2, p3, rfl, hci, -, ha⟩
  · exact c_Wb_many_N (tc := 0) h hob hpl h47 x
  · rcases hci with e | e | e | e | e | e <;> subst e
    · exact c_Wb_many_5 ha h hob hpl h47 x
    · exact c_Wb_many_8 ha h hob hpl h47 x
    · exact c_Wb_many_1 ha h hob hpl h47 x
    · exact c_Wb_many_10 ha h hob hpl h47 x
    · exact c_Wb_many_6 ha h hob hpl h47 x
    · exact c_Wb_many_2 ha h hob hpl h47 x
