/-! ===== the reference (cell 88): its numbers s by the fields' places, its row m (cell 89) ===== -/
def mob (s : Nat → Int32) : va_E := .inr (12, [.ref 89, .ref 90, .ref 91, .int (s 3), .ref 92, .int (s 5), .int (s 6), .int (s 7), .int (s 8), .int (s 9), .int (s 10), .int (s 11), .int (s 12), .ref 93, .int (s 14), .ref 94, .ref 95, .int (s 17), .int (s 18), .int (s 19), .int (s 20), .ref 96, .ref 97, .int (s 23), .ref 98, .ref 99, .ref 100, .ref 101, .ref 102, .ref 103, .ref 104, .ref 105, .int (s 32), .int (s 33)])
def pm (ν : Nat → va_E) (s m : Nat → Int32) : Nat → va_E := zu (zu ν 88 (mob s)) 89 (.inl (0, 618, .inl m))
section PM
variable {ν : Nat → va_E} {s m : Nat → Int32}
theorem pm_0 : pm ν s m 88 = mob s := by
  unfold pm
  rw [zu_n (by decide), zu_s]
theorem pm_f : pm ν s m 88 = .inr (12, [.ref 89, .ref 90, .ref 91, .int (s 3), .ref 92, .int (s 5), .int (s 6), .int (s 7), .int (s 8), .int (s 9), .int (s 10), .int (s 11), .int (s 12), .ref 93, .int (s 14), .ref 94, .ref 95, .int (s 17), .int (s 18), .int (s 19), .int (s 20), .ref 96, .ref 97, .int (s 23), .ref 98, .ref 99, .ref 100, .ref 101, .ref 102, .ref 103, .ref 104, .ref 105, .int (s 32), .int (s 33)]) := pm_0
theorem pm_1 : pm ν s m 89 = .inl (0, 618, .inl m) := by
  unfold pm
  rw [zu_s]
theorem pm_o {b : Nat} (h : b < 88 ∨ 89 < b) : pm ν s m b = ν b := by
  unfold pm
  rw [zu_n (by omega), zu_n (by omega)]
theorem pm_s1 {m' : Nat → Int32} : zu (pm ν s m) 89 (.inl (0, 618, .inl m')) = pm ν s m' := by
  unfold pm
  rw [zu_zu]
theorem pm_s0 {s' : Nat → Int32} : zu (pm ν s m) 88 (mob s') = pm ν s' m := by
  unfold pm
  rw [zu_sw (a := 89) (b := 88) (by decide), zu_zu]
theorem pm_out {b : Nat} {c : va_E} (h : b < 88 ∨ 89 < b) : zu (pm ν s m) b c = pm (zu ν b c) s m := by
  unfold pm
  rw [zu_sw (a := 89) (b := b) (by omega), zu_sw (a := 88) (b := b) (by omega)]
theorem mob_3 {v : Int32} : (Sum.inr (12, [.ref 89, .ref 90, .ref 91, .int v, .ref 92, .int (s 5), .int (s 6), .int (s 7), .int (s 8), .int (s 9), .int (s 10), .int (s 11), .int (s 12), .ref 93, .int (s 14), .ref 94, .ref 95, .int (s 17), .int (s 18), .int (s 19), .int (s 20), .ref 96, .ref 97, .int (s 23), .ref 98, .ref 99, .ref 100, .ref 101, .ref 102, .ref 103, .ref 104, .ref 105, .int (s 32), .int (s 33)]) : va_E) = mob (un s 3 v) := rfl
theorem mob_5 {v : Int32} : (Sum.inr (12, [.ref 89, .ref 90, .ref 91, .int (s 3), .ref 92, .int v, .int (s 6), .int (s 7), .int (s 8), .int (s 9), .int (s 10), .int (s 11), .int (s 12), .ref 93, .int (s 14), .ref 94, .ref 95, .int (s 17), .int (s 18), .int (s 19), .int (s 20), .ref 96, .ref 97, .int (s 23), .ref 98, .ref 99, .ref 100, .ref 101, .ref 102, .ref 103, .ref 104, .ref 105, .int (s 32), .int (s 33)]) : va_E) = mob (un s 5 v) := rfl
theorem mob_6 {v : Int32} : (Sum.inr (12, [.ref 89, .ref 90, .ref 91, .int (s 3), .ref 92, .int (s 5), .int v, .int (s 7), .int (s 8), .int (s 9), .int (s 10), .int (s 11), .int (s 12), .ref 93, .int (s 14), .ref 94, .ref 95, .int (s 17), .int (s 18), .int (s 19), .int (s 20), .ref 96, .ref 97, .int (s 23), .ref 98, .ref 99, .ref 100, .ref 101, .ref 102, .ref 103, .ref 104, .ref 105, .int (s 32), .int (s 33)]) : va_E) = mob (un s 6 v) := rfl
theorem mob_7 {v : Int32} : (Sum.inr (12, [.ref 89, .ref 90, .ref 91, .int (s 3), .ref 92, .int (s 5), .int (s 6), .int v, .int (s 8), .int (s 9), .int (s 10), .int (s 11), .int (s 12), .ref 93, .int (s 14), .ref 94, .ref 95, .int (s 17), .int (s 18), .int (s 19), .int (s 20), .ref 96, .ref 97, .int (s 23), .ref 98, .ref 99, .ref 100, .ref 101, .ref 102, .ref 103, .ref 104, .ref 105, .int (s 32), .int (s 33)]) : va_E) = mob (un s 7 v) := rfl
theorem mob_8 {v : Int32} : (Sum.inr (12, [.ref 89, .ref 90, .ref 91, .int (s 3), .ref 92, .int (s 5), .int (s 6), .int (s 7), .int v, .int (s 9), .int (s 10), .int (s 11), .int (s 12), .ref 93, .int (s 14), .ref 94, .ref 95, .int (s 17), .int (s 18), .int (s 19), .int (s 20), .ref 96, .ref 97, .int (s 23), .ref 98, .ref 99, .ref 100, .ref 101, .ref 102, .ref 103, .ref 104, .ref 105, .int (s 32), .int (s 33)]) : va_E) = mob (un s 8 v) := rfl
theorem mob_9 {v : Int32} : (Sum.inr (12, [.ref 89, .ref 90, .ref 91, .int (s 3), .ref 92, .int (s 5), .int (s 6), .int (s 7), .int (s 8), .int v, .int (s 10), .int (s 11), .int (s 12), .ref 93, .int (s 14), .ref 94, .ref 95, .int (s 17), .int (s 18), .int (s 19), .int (s 20), .ref 96, .ref 97, .int (s 23), .ref 98, .ref 99, .ref 100, .ref 101, .ref 102, .ref 103, .ref 104, .ref 105, .int (s 32), .int (s 33)]) : va_E) = mob (un s 9 v) := rfl
theorem mob_10 {v : Int32} : (Sum.inr (12, [.ref 89, .ref 90, .ref 91, .int (s 3), .ref 92, .int (s 5), .int (s 6), .int (s 7), .int (s 8), .int (s 9), .int v, .int (s 11), .int (s 12), .ref 93, .int (s 14), .ref 94, .ref 95, .int (s 17), .int (s 18), .int (s 19), .int (s 20), .ref 96, .ref 97, .int (s 23), .ref 98, .ref 99, .ref 100, .ref 101, .ref 102, .ref 103, .ref 104, .ref 105, .int (s 32), .int (s 33)]) : va_E) = mob (un s 10 v) := rfl
theorem mob_11 {v : Int32} : (Sum.inr (12, [.ref 89, .ref 90, .ref 91, .int (s 3), .ref 92, .int (s 5), .int (s 6), .int (s 7), .int (s 8), .int (s 9), .int (s 10), .int v, .int (s 12), .ref 93, .int (s 14), .ref 94, .ref 95, .int (s 17), .int (s 18), .int (s 19), .int (s 20), .ref 96, .ref 97, .int (s 23), .ref 98, .ref 99, .ref 100, .ref 101, .ref 102, .ref 103, .ref 104, .ref 105, .int (s 32), .int (s 33)]) : va_E) = mob (un s 11 v) := rfl
theorem mob_12 {v : Int32} : (Sum.inr (12, [.ref 89, .ref 90, .ref 91, .int (s 3), .ref 92, .int (s 5), .int (s 6), .int (s 7), .int (s 8), .int (s 9), .int (s 10), .int (s 11), .int v, .ref 93, .int (s 14), .ref 94, .ref 95, .int (s 17), .int (s 18), .int (s 19), .int (s 20), .ref 96, .ref 97, .int (s 23), .ref 98, .ref 99, .ref 100, .ref 101, .ref 102, .ref 103, .ref 104, .ref 105, .int (s 32), .int (s 33)]) : va_E) = mob (un s 12 v) := rfl
theorem mob_14 {v : Int32} : (Sum.inr (12, [.ref 89, .ref 90, .ref 91, .int (s 3), .ref 92, .int (s 5), .int (s 6), .int (s 7), .int (s 8), .int (s 9), .int (s 10), .int (s 11), .int (s 12), .ref 93, .int v, .ref 94, .ref 95, .int (s 17), .int (s 18), .int (s 19), .int (s 20), .ref 96, .ref 97, .int (s 23), .ref 98, .ref 99, .ref 100, .ref 101, .ref 102, .ref 103, .ref 104, .ref 105, .int (s 32), .int (s 33)]) : va_E) = mob (un s 14 v) := rfl
theorem mob_17 {v : Int32} : (Sum.inr (12, [.ref 89, .ref 90, .ref 91, .int (s 3), .ref 92, .int (s 5), .int (s 6), .int (s 7), .int (s 8), .int (s 9), .int (s 10), .int (s 11), .int (s 12), .ref 93, .int (s 14), .ref 94, .ref 95, .int v, .int (s 18), .int (s 19), .int (s 20), .ref 96, .ref 97, .int (s 23), .ref 98, .ref 99, .ref 100, .ref 101, .ref 102, .ref 103, .ref 104, .ref 105, .int (s 32), .int (s 33)]) : va_E) = mob (un s 17 v) := rfl
theorem mob_18 {v : Int32} : (Sum.inr (12, [.ref 89, .ref 90, .ref 91, .int (s 3), .ref 92, .int (s 5), .int (s 6), .int (s 7), .int (s 8), .int (s 9), .int (s 10), .int (s 11), .int (s 12), .ref 93, .int (s 14), .ref 94, .ref 95, .int (s 17), .int v, .int (s 19), .int (s 20), .ref 96, .ref 97, .int (s 23), .ref 98, .ref 99, .ref 100, .ref 101, .ref 102, .ref 103, .ref 104, .ref 105, .int (s 32), .int (s 33)]) : va_E) = mob (un s 18 v) := rfl
theorem mob_19 {v : Int32} : (Sum.inr (12, [.ref 89, .ref 90, .ref 91, .int (s 3), .ref 92, .int (s 5), .int (s 6), .int (s 7), .int (s 8), .int (s 9), .int (s 10), .int (s 11), .int (s 12), .ref 93, .int (s 14), .ref 94, .ref 95, .int (s 17), .int (s 18), .int v, .int (s 20), .ref 96, .ref 97, .int (s 23), .ref 98, .ref 99, .ref 100, .ref 101, .ref 102, .ref 103, .ref 104, .ref 105, .int (s 32), .int (s 33)]) : va_E) = mob (un s 19 v) := rfl
theorem mob_20 {v : Int32} : (Sum.inr (12, [.ref 89, .ref 90, .ref 91, .int (s 3), .ref 92, .int (s 5), .int (s 6), .int (s 7), .int (s 8), .int (s 9), .int (s 10), .int (s 11), .int (s 12), .ref 93, .int (s 14), .ref 94, .ref 95, .int (s 17), .int (s 18), .int (s 19), .int v, .ref 96, .ref 97, .int (s 23), .ref 98, .ref 99, .ref 100, .ref 101, .ref 102, .ref 103, .ref 104, .ref 105, .int (s 32), .int (s 33)]) : va_E) = mob (un s 20 v) := rfl
theorem mob_23 {v : Int32} : (Sum.inr (12, [.ref 89, .ref 90, .ref 91, .int (s 3), .ref 92, .int (s 5), .int (s 6), .int (s 7), .int (s 8), .int (s 9), .int (s 10), .int (s 11), .int (s 12), .ref 93, .int (s 14), .ref 94, .ref 95, .int (s 17), .int (s 18), .int (s 19), .int (s 20), .ref 96, .ref 97, .int v, .ref 98, .ref 99, .ref 100, .ref 101, .ref 102, .ref 103, .ref 104, .ref 105, .int (s 32), .int (s 33)]) : va_E) = mob (un s 23 v) := rfl
theorem mob_32 {v : Int32} : (Sum.inr (12, [.ref 89, .ref 90, .ref 91, .int (s 3), .ref 92, .int (s 5), .int (s 6), .int (s 7), .int (s 8), .int (s 9), .int (s 10), .int (s 11), .int (s 12), .ref 93, .int (s 14), .ref 94, .ref 95, .int (s 17), .int (s 18), .int (s 19), .int (s 20), .ref 96, .ref 97, .int (s 23), .ref 98, .ref 99, .ref 100, .ref 101, .ref 102, .ref 103, .ref 104, .ref 105, .int v, .int (s 33)]) : va_E) = mob (un s 32 v) := rfl
theorem mob_33 {v : Int32} : (Sum.inr (12, [.ref 89, .ref 90, .ref 91, .int (s 3), .ref 92, .int (s 5), .int (s 6), .int (s 7), .int (s 8), .int (s 9), .int (s 10), .int (s 11), .int (s 12), .ref 93, .int (s 14), .ref 94, .ref 95, .int (s 17), .int (s 18), .int (s 19), .int (s 20), .ref 96, .ref 97, .int (s 23), .ref 98, .ref 99, .ref 100, .ref 101, .ref 102, .ref 103, .ref 104, .ref 105, .int (s 32), .int v]) : va_E) = mob (un s 33 v) := rfl
end PM
/-! ===== what the reference's row holds ===== -/
def hasI (w : Nat) : Int32 := if w = 6 then -1 else nI w
def mk (S : Nat → Nat → Nat) (mo : Nat) (pr fa : Nat → Nat) (sc ch : Int32) (rc : Nat) (ρ : Nat → Int32) : Nat → Int32 := fun i =>
  if i = 0 then nI (S 0 3) else if i = 1 then nI mo else if i = 2 then nI (S 0 1) else if i = 3 then nI (S 0 0) else if i = 4 then sc else if i = 5 then ch else if i = 6 then nI (S 0 2) else if i = 7 then nI rc
  else if i < 32 then (if (i - 8) % 4 = 0 then nI (S 4 ((i - 8) / 4)) else if (i - 8) % 4 = 1 then nI (S 5 ((i - 8) / 4)) else if (i - 8) % 4 = 2 then nI (S 6 ((i - 8) / 4)) else nI (S 7 ((i - 8) / 4)))
  else if i < 62 then (if (i - 32) % 5 = 0 then nI (S 1 ((i - 32) / 5)) else if (i - 32) % 5 = 1 then nI (S 2 ((i - 32) / 5)) else if (i - 32) % 5 = 2 then nI (S 3 ((i - 32) / 5)) else if (i - 32) % 5 = 3 then hasI (pr ((i - 32) / 5)) else nI (fa ((i - 32) / 5)))
  else if i < 86 then nI (S 8 (i - 62)) else ρ i
section MK
variable {S : Nat → Nat → Nat} {mo : Nat} {pr fa : Nat → Nat} {sc ch : Int32} {rc : Nat} {ρ : Nat → Int32}
theorem mk_0 : mk S mo pr fa sc ch rc ρ 0 = nI (S 0 3) := rfl
theorem mk_1 : mk S mo pr fa sc ch rc ρ 1 = nI mo := rfl
theorem mk_2 : mk S mo pr fa sc ch rc ρ 2 = nI (S 0 1) := rfl
theorem mk_3 : mk S mo pr fa sc ch rc ρ 3 = nI (S 0 0) := rfl
theorem mk_4 : mk S mo pr fa sc ch rc ρ 4 = sc := rfl
theorem mk_5 : mk S mo pr fa sc ch rc ρ 5 = ch := rfl
theorem mk_6 : mk S mo pr fa sc ch rc ρ 6 = nI (S 0 2) := rfl
theorem mk_7 : mk S mo pr fa sc ch rc ρ 7 = nI rc := rfl
theorem mk_w0 {w : Nat} (hw : w < 6) : mk S mo pr fa sc ch rc ρ (8 + 4 * w + 0) = nI (S 4 w) := by
  unfold mk
  rw [if_neg (by omega), if_neg (by omega), if_neg (by omega), if_neg (by omega), if_neg (by omega), if_neg (by omega), if_neg (by omega), if_neg (by omega), if_pos (by omega), show 8 + 4 * w + 0 - 8 = 4 * w + 0 by omega, show (4 * w + 0) / 4 = w by omega, show (4 * w + 0) % 4 = 0 by omega]
  rfl
theorem mk_w1 {w : Nat} (hw : w < 6) : mk S mo pr fa sc ch rc ρ (8 + 4 * w + 1) = nI (S 5 w) := by
  unfold mk
  rw [if_neg (by omega), if_neg (by omega), if_neg (by omega), if_neg (by omega), if_neg (by omega), if_neg (by omega), if_neg (by omega), if_neg (by omega), if_pos (by omega), show 8 + 4 * w + 1 - 8 = 4 * w + 1 by omega, show (4 * w + 1) / 4 = w by omega, show (4 * w + 1) % 4 = 1 by omega]
  rfl
theorem mk_w2 {w : Nat} (hw : w < 6) : mk S mo pr fa sc ch rc ρ (8 + 4 * w + 2) = nI (S 6 w) := by
  unfold mk
  rw [if_neg (by omega), if_neg (by omega), if_neg (by omega), if_neg (by omega), if_neg (by omega), if_neg (by omega), if_neg (by omega), if_neg (by omega), if_pos (by omega), show 8 + 4 * w + 2 - 8 = 4 * w + 2 by omega, show (4 * w + 2) / 4 = w by omega, show (4 * w + 2) % 4 = 2 by omega]
  rfl
theorem mk_w3 {w : Nat} (hw : w < 6) : mk S mo pr fa sc ch rc ρ (8 + 4 * w + 3) = nI (S 7 w) := by
  unfold mk
  rw [if_neg (by omega), if_neg (by omega), if_neg (by omega), if_neg (by omega), if_neg (by omega), if_neg (by omega), if_neg (by omega), if_neg (by omega), if_pos (by omega), show 8 + 4 * w + 3 - 8 = 4 * w + 3 by omega, show (4 * w + 3) / 4 = w by omega, show (4 * w + 3) % 4 = 3 by omega]
  rfl
theorem mk_g0 {g : Nat} (hg : g < 6) : mk S mo pr fa sc ch rc ρ (32 + 5 * g + 0) = nI (S 1 g) := by
  unfold mk
  rw [if_neg (by omega), if_neg (by omega), if_neg (by omega), if_neg (by omega), if_neg (by omega), if_neg (by omega), if_neg (by omega), if_neg (by omega), if_neg (by omega), if_pos (by omega), show 32 + 5 * g + 0 - 32 = 5 * g + 0 by omega, show (5 * g + 0) / 5 = g by omega, show (5 * g + 0) % 5 = 0 by omega]
  rfl
theorem mk_g1 {g : Nat} (hg : g < 6) : mk S mo pr fa sc ch rc ρ (32 + 5 * g + 1) = nI (S 2 g) := by
  unfold mk
  rw [if_neg (by omega), if_neg (by omega), if_neg (by omega), if_neg (by omega), if_neg (by omega), if_neg (by omega), if_neg (by omega), if_neg (by omega), if_neg (by omega), if_pos (by omega), show 32 + 5 * g + 1 - 32 = 5 * g + 1 by omega, show (5 * g + 1) / 5 = g by omega, show (5 * g + 1) % 5 = 1 by omega]
  rfl
theorem mk_g2 {g : Nat} (hg : g < 6) : mk S mo pr fa sc ch rc ρ (32 + 5 * g + 2) = nI (S 3 g) := by
  unfold mk
  rw [if_neg (by omega), if_neg (by omega), if_neg (by omega), if_neg (by omega), if_neg (by omega), if_neg (by omega), if_neg (by omega), if_neg (by omega), if_neg (by omega), if_pos (by omega), show 32 + 5 * g + 2 - 32 = 5 * g + 2 by omega, show (5 * g + 2) / 5 = g by omega, show (5 * g + 2) % 5 = 2 by omega]
  rfl
theorem mk_g3 {g : Nat} (hg : g < 6) : mk S mo pr fa sc ch rc ρ (32 + 5 * g + 3) = hasI (pr g) := by
  unfold mk
  rw [if_neg (by omega), if_neg (by omega), if_neg (by omega), if_neg (by omega), if_neg (by omega), if_neg (by omega), if_neg (by omega), if_neg (by omega), if_neg (by omega), if_pos (by omega), show 32 + 5 * g + 3 - 32 = 5 * g + 3 by omega, show (5 * g + 3) / 5 = g by omega, show (5 * g + 3) % 5 = 3 by omega]
  rfl
theorem mk_g4 {g : Nat} (hg : g < 6) : mk S mo pr fa sc ch rc ρ (32 + 5 * g + 4) = nI (fa g) := by
  unfold mk
  rw [if_neg (by omega), if_neg (by omega), if_neg (by omega), if_neg (by omega), if_neg (by omega), if_neg (by omega), if_neg (by omega), if_neg (by omega), if_neg (by omega), if_pos (by omega), show 32 + 5 * g + 4 - 32 = 5 * g + 4 by omega, show (5 * g + 4) / 5 = g by omega, show (5 * g + 4) % 5 = 4 by omega]
  rfl
theorem mk_r {r : Nat} (hr : r < 24) : mk S mo pr fa sc ch rc ρ (62 + r) = nI (S 8 r) := by
  unfold mk
  rw [if_neg (by omega), if_neg (by omega), if_neg (by omega), if_neg (by omega), if_neg (by omega), if_neg (by omega), if_neg (by omega), if_neg (by omega), if_neg (by omega), if_neg (by omega), if_pos (by omega), show 62 + r - 62 = r by omega]
theorem mk_s {i : Nat} (hi : 86 ≤ i) : mk S mo pr fa sc ch rc ρ i = ρ i := by
  unfold mk
  rw [if_neg (by omega), if_neg (by omega), if_neg (by omega), if_neg (by omega), if_neg (by omega), if_neg (by omega), if_neg (by omega), if_neg (by omega), if_neg (by omega), if_neg (by omega), if_neg (by omega)]
theorem mk_cases {P : Nat → Prop} (h8 : ∀ i, i < 8 → P i) (hw : ∀ w, w < 6 → P (8 + 4 * w + 0) ∧ P (8 + 4 * w + 1) ∧ P (8 + 4 * w + 2) ∧ P (8 + 4 * w + 3)) (hg : ∀ g, g < 6 → P (32 + 5 * g + 0) ∧ P (32 + 5 * g + 1) ∧ P (32 + 5 * g + 2) ∧ P (32 + 5 * g + 3) ∧ P (32 + 5 * g + 4)) (hr : ∀ r, r < 24 → P (62 + r)) (hs : ∀ i, 86 ≤ i → P i) : ∀ i, P i := by
  intro i
  rcases Nat.lt_or_ge i 8 with h | h
  · exact h8 i h
  rcases Nat.lt_or_ge i 32 with h1 | h1
  · obtain ⟨q0, q1, q2, q3⟩ := hw ((i - 8) / 4) (by omega)
    rcases (show i = 8 + 4 * ((i - 8) / 4) + 0 ∨ i = 8 + 4 * ((i - 8) / 4) + 1 ∨ i = 8 + 4 * ((i - 8) / 4) + 2 ∨ i = 8 + 4 * ((i - 8) / 4) + 3 by omega) with e | e | e | e <;> rw [e] <;> assumption
  rcases Nat.lt_or_ge i 62 with h2 | h2
  · obtain ⟨q0, q1, q2, q3, q4⟩ := hg ((i - 32) / 5) (by omega)
    rcases (show i = 32 + 5 * ((i - 32) / 5) + 0 ∨ i = 32 + 5 * ((i - 32) / 5) + 1 ∨ i = 32 + 5 * ((i - 32) / 5) + 2 ∨ i = 32 + 5 * ((i - 32) / 5) + 3 ∨ i = 32 + 5 * ((i - 32) / 5) + 4 by omega) with e | e | e | e | e <;> rw [e] <;> assumption
  rcases Nat.lt_or_ge i 86 with h3 | h3
  · have := hr (i - 62) (by omega)
    rwa [show 62 + (i - 62) = i by omega] at this
  · exact hs i h3
theorem upd_at {f : Nat → Int32} {k : Nat} {x : Int32} : upd f k x k = x := if_pos rfl
theorem upd_no {f : Nat → Int32} {k i : Nat} {x : Int32} (h : i ≠ k) : upd f k x i = f i := if_neg h
theorem mk_u_mo {t : Nat} : upd (mk S mo pr fa sc ch rc ρ) 1 (nI t) = mk S t pr fa sc ch rc ρ := by
  funext i
  by_cases h : i = 1
  · subst h; rfl
  · rw [upd_no h]
    unfold mk
    simp only [un, if_neg h]
    all_goals (first | rfl | simp)
theorem mk_u_sc {x : Int32} : upd (mk S mo pr fa sc ch rc ρ) 4 (x) = mk S mo pr fa x ch rc ρ := by
  funext i
  by_cases h : i = 4
  · subst h; rfl
  · rw [upd_no h]
    unfold mk
    simp only [un, if_neg h]
    all_goals (first | rfl | simp)
theorem mk_u_ch {x : Int32} : upd (mk S mo pr fa sc ch rc ρ) 5 (x) = mk S mo pr fa sc x rc ρ := by
  funext i
  by_cases h : i = 5
  · subst h; rfl
  · rw [upd_no h]
    unfold mk
    simp only [un, if_neg h]
    all_goals (first | rfl | simp)
theorem mk_u_rc {t : Nat} : upd (mk S mo pr fa sc ch rc ρ) 7 (nI t) = mk S mo pr fa sc ch t ρ := by
  funext i
  by_cases h : i = 7
  · subst h; rfl
  · rw [upd_no h]
    unfold mk
    simp only [un, if_neg h]
    all_goals (first | rfl | simp)
theorem mk_u_en {t : Nat} : upd (mk S mo pr fa sc ch rc ρ) 0 (nI t) = mk (un S 0 (un (S 0) 3 t)) mo pr fa sc ch rc ρ := by
  funext i
  by_cases h : i = 0
  · subst h; rfl
  · rw [upd_no h]
    unfold mk
    simp only [un, if_neg h]
    all_goals (first | rfl | simp)
theorem mk_u_nw {t : Nat} : upd (mk S mo pr fa sc ch rc ρ) 2 (nI t) = mk (un S 0 (un (S 0) 1 t)) mo pr fa sc ch rc ρ := by
  funext i
  by_cases h : i = 2
  · subst h; rfl
  · rw [upd_no h]
    unfold mk
    simp only [un, if_neg h]
    all_goals (first | rfl | simp)
theorem mk_u_ng {t : Nat} : upd (mk S mo pr fa sc ch rc ρ) 3 (nI t) = mk (un S 0 (un (S 0) 0 t)) mo pr fa sc ch rc ρ := by
  funext i
  by_cases h : i = 3
  · subst h; rfl
  · rw [upd_no h]
    unfold mk
    simp only [un, if_neg h]
    all_goals (first | rfl | simp)
theorem mk_u_nr {t : Nat} : upd (mk S mo pr fa sc ch rc ρ) 6 (nI t) = mk (un S 0 (un (S 0) 2 t)) mo pr fa sc ch rc ρ := by
  funext i
  by_cases h : i = 6
  · subst h; rfl
  · rw [upd_no h]
    unfold mk
    simp only [un, if_neg h]
    all_goals (first | rfl | simp)
theorem mk_u_kd {g : Nat} {x : Nat} (hg : g < 6) : upd (mk S mo pr fa sc ch rc ρ) (32 + 5 * g + 0) (nI x) = mk (un S 1 (un (S 1) g x)) mo pr fa sc ch rc ρ := by
  funext i
  revert i
  refine mk_cases (fun i hi => ?_) (fun w hw => ?_) (fun g0 hg0 => ?_) (fun r hr => ?_) (fun i hi => ?_)
  · rw [upd_no (by omega)]
    rcases (show i = 0 ∨ i = 1 ∨ i = 2 ∨ i = 3 ∨ i = 4 ∨ i = 5 ∨ i = 6 ∨ i = 7 by omega) with e | e | e | e | e | e | e | e <;> subst e <;> rfl
  · rw [upd_no (by omega), upd_no (by omega), upd_no (by omega), upd_no (by omega), mk_w0 hw, mk_w1 hw, mk_w2 hw, mk_w3 hw, mk_w0 hw, mk_w1 hw, mk_w2 hw, mk_w3 hw]
    exact ⟨rfl, rfl, rfl, rfl⟩
  · rw [mk_g0 hg0, mk_g1 hg0, mk_g2 hg0, mk_g3 hg0, mk_g4 hg0]
    by_cases e : g0 = g
    · subst e
      refine ⟨?_, ?_, ?_, ?_, ?_⟩ <;> first | (rw [upd_at]; simp [un]; done) | (rw [upd_no (by omega)]; (first | rw [mk_g0 hg0] | rw [mk_g1 hg0] | rw [mk_g2 hg0] | rw [mk_g3 hg0] | rw [mk_g4 hg0]); all_goals (first | rfl | simp [un]))
    · rw [upd_no (by omega), upd_no (by omega), upd_no (by omega), upd_no (by omega), upd_no (by omega), mk_g0 hg0, mk_g1 hg0, mk_g2 hg0, mk_g3 hg0, mk_g4 hg0]
      all_goals (first | (refine ⟨?_, ?_, ?_, ?_, ?_⟩ <;> first | rfl | (simp [un, e]; done)) | simp [un, e])
  · rw [upd_no (by omega), mk_r hr, mk_r hr]
    all_goals (first | rfl | simp [un])
  · rw [upd_no (by omega), mk_s hi, mk_s hi]
theorem mk_u_hs {g : Nat} {x : Nat} (hg : g < 6) : upd (mk S mo pr fa sc ch rc ρ) (32 + 5 * g + 1) (nI x) = mk (un S 2 (un (S 2) g x)) mo pr fa sc ch rc ρ := by
  funext i
  revert i
  refine mk_cases (fun i hi => ?_) (fun w hw => ?_) (fun g0 hg0 => ?_) (fun r hr => ?_) (fun i hi => ?_)
  · rw [upd_no (by omega)]
    rcases (show i = 0 ∨ i = 1 ∨ i = 2 ∨ i = 3 ∨ i = 4 ∨ i = 5 ∨ i = 6 ∨ i = 7 by omega) with e | e | e | e | e | e | e | e <;> subst e <;> rfl
  · rw [upd_no (by omega), upd_no (by omega), upd_no (by omega), upd_no (by omega), mk_w0 hw, mk_w1 hw, mk_w2 hw, mk_w3 hw, mk_w0 hw, mk_w1 hw, mk_w2 hw, mk_w3 hw]
    exact ⟨rfl, rfl, rfl, rfl⟩
  · rw [mk_g0 hg0, mk_g1 hg0, mk_g2 hg0, mk_g3 hg0, mk_g4 hg0]
    by_cases e : g0 = g
    · subst e
      refine ⟨?_, ?_, ?_, ?_, ?_⟩ <;> first | (rw [upd_at]; simp [un]; done) | (rw [upd_no (by omega)]; (first | rw [mk_g0 hg0] | rw [mk_g1 hg0] | rw [mk_g2 hg0] | rw [mk_g3 hg0] | rw [mk_g4 hg0]); all_goals (first | rfl | simp [un]))
    · rw [upd_no (by omega), upd_no (by omega), upd_no (by omega), upd_no (by omega), upd_no (by omega), mk_g0 hg0, mk_g1 hg0, mk_g2 hg0, mk_g3 hg0, mk_g4 hg0]
      all_goals (first | (refine ⟨?_, ?_, ?_, ?_, ?_⟩ <;> first | rfl | (simp [un, e]; done)) | simp [un, e])
  · rw [upd_no (by omega), mk_r hr, mk_r hr]
    all_goals (first | rfl | simp [un])
  · rw [upd_no (by omega), mk_s hi, mk_s hi]
theorem mk_u_dw {g : Nat} {x : Nat} (hg : g < 6) : upd (mk S mo pr fa sc ch rc ρ) (32 + 5 * g + 2) (nI x) = mk (un S 3 (un (S 3) g x)) mo pr fa sc ch rc ρ := by
  funext i
  revert i
  refine mk_cases (fun i hi => ?_) (fun w hw => ?_) (fun g0 hg0 => ?_) (fun r hr => ?_) (fun i hi => ?_)
  · rw [upd_no (by omega)]
    rcases (show i = 0 ∨ i = 1 ∨ i = 2 ∨ i = 3 ∨ i = 4 ∨ i = 5 ∨ i = 6 ∨ i = 7 by omega) with e | e | e | e | e | e | e | e <;> subst e <;> rfl
  · rw [upd_no (by omega), upd_no (by omega), upd_no (by omega), upd_no (by omega), mk_w0 hw, mk_w1 hw, mk_w2 hw, mk_w3 hw, mk_w0 hw, mk_w1 hw, mk_w2 hw, mk_w3 hw]
    exact ⟨rfl, rfl, rfl, rfl⟩
  · rw [mk_g0 hg0, mk_g1 hg0, mk_g2 hg0, mk_g3 hg0, mk_g4 hg0]
    by_cases e : g0 = g
    · subst e
      refine ⟨?_, ?_, ?_, ?_, ?_⟩ <;> first | (rw [upd_at]; simp [un]; done) | (rw [upd_no (by omega)]; (first | rw [mk_g0 hg0] | rw [mk_g1 hg0] | rw [mk_g2 hg0] | rw [mk_g3 hg0] | rw [mk_g4 hg0]); all_goals (first | rfl | simp [un]))
    · rw [upd_no (by omega), upd_no (by omega), upd_no (by omega), upd_no (by omega), upd_no (by omega), mk_g0 hg0, mk_g1 hg0, mk_g2 hg0, mk_g3 hg0, mk_g4 hg0]
      all_goals (first | (refine ⟨?_, ?_, ?_, ?_, ?_⟩ <;> first | rfl | (simp [un, e]; done)) | simp [un, e])
  · rw [upd_no (by omega), mk_r hr, mk_r hr]
    all_goals (first | rfl | simp [un])
  · rw [upd_no (by omega), mk_s hi, mk_s hi]
theorem mk_u_pr {g : Nat} {x : Nat} (hg : g < 6) : upd (mk S mo pr fa sc ch rc ρ) (32 + 5 * g + 3) (hasI x) = mk S mo (un pr g x) fa sc ch rc ρ := by
  funext i
  revert i
  refine mk_cases (fun i hi => ?_) (fun w hw => ?_) (fun g0 hg0 => ?_) (fun r hr => ?_) (fun i hi => ?_)
  · rw [upd_no (by omega)]
    rcases (show i = 0 ∨ i = 1 ∨ i = 2 ∨ i = 3 ∨ i = 4 ∨ i = 5 ∨ i = 6 ∨ i = 7 by omega) with e | e | e | e | e | e | e | e <;> subst e <;> rfl
  · rw [upd_no (by omega), upd_no (by omega), upd_no (by omega), upd_no (by omega), mk_w0 hw, mk_w1 hw, mk_w2 hw, mk_w3 hw, mk_w0 hw, mk_w1 hw, mk_w2 hw, mk_w3 hw]
    exact ⟨rfl, rfl, rfl, rfl⟩
  · rw [mk_g0 hg0, mk_g1 hg0, mk_g2 hg0, mk_g3 hg0, mk_g4 hg0]
    by_cases e : g0 = g
    · subst e
      refine ⟨?_, ?_, ?_, ?_, ?_⟩ <;> first | (rw [upd_at]; simp [un]; done) | (rw [upd_no (by omega)]; (first | rw [mk_g0 hg0] | rw [mk_g1 hg0] | rw [mk_g2 hg0] | rw [mk_g3 hg0] | rw [mk_g4 hg0]); all_goals (first | rfl | simp [un]))
    · rw [upd_no (by omega), upd_no (by omega), upd_no (by omega), upd_no (by omega), upd_no (by omega), mk_g0 hg0, mk_g1 hg0, mk_g2 hg0, mk_g3 hg0, mk_g4 hg0]
      all_goals (first | (refine ⟨?_, ?_, ?_, ?_, ?_⟩ <;> first | rfl | (simp [un, e]; done)) | simp [un, e])
  · rw [upd_no (by omega), mk_r hr, mk_r hr]
    all_goals (first | rfl | simp [un])
  · rw [upd_no (by omega), mk_s hi, mk_s hi]
theorem mk_u_fa {g : Nat} {x : Nat} (hg : g < 6) : upd (mk S mo pr fa sc ch rc ρ) (32 + 5 * g + 4) (nI x) = mk S mo pr (un fa g x) sc ch rc ρ := by
  funext i
  revert i
  refine mk_cases (fun i hi => ?_) (fun w hw => ?_) (fun g0 hg0 => ?_) (fun r hr => ?_) (fun i hi => ?_)
  · rw [upd_no (by omega)]
    rcases (show i = 0 ∨ i = 1 ∨ i = 2 ∨ i = 3 ∨ i = 4 ∨ i = 5 ∨ i = 6 ∨ i = 7 by omega) with e | e | e | e | e | e | e | e <;> subst e <;> rfl
  · rw [upd_no (by omega), upd_no (by omega), upd_no (by omega), upd_no (by omega), mk_w0 hw, mk_w1 hw, mk_w2 hw, mk_w3 hw, mk_w0 hw, mk_w1 hw, mk_w2 hw, mk_w3 hw]
    exact ⟨rfl, rfl, rfl, rfl⟩
  · rw [mk_g0 hg0, mk_g1 hg0, mk_g2 hg0, mk_g3 hg0, mk_g4 hg0]
    by_cases e : g0 = g
    · subst e
      refine ⟨?_, ?_, ?_, ?_, ?_⟩ <;> first | (rw [upd_at]; simp [un]; done) | (rw [upd_no (by omega)]; (first | rw [mk_g0 hg0] | rw [mk_g1 hg0] | rw [mk_g2 hg0] | rw [mk_g3 hg0] | rw [mk_g4 hg0]); all_goals (first | rfl | simp [un]))
    · rw [upd_no (by omega), upd_no (by omega), upd_no (by omega), upd_no (by omega), upd_no (by omega), mk_g0 hg0, mk_g1 hg0, mk_g2 hg0, mk_g3 hg0, mk_g4 hg0]
      all_goals (first | (refine ⟨?_, ?_, ?_, ?_, ?_⟩ <;> first | rfl | (simp [un, e]; done)) | simp [un, e])
  · rw [upd_no (by omega), mk_r hr, mk_r hr]
    all_goals (first | rfl | simp [un])
  · rw [upd_no (by omega), mk_s hi, mk_s hi]
end MK
