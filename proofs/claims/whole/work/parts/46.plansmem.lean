/-! ===== the plans' memory: object 56, rows 57 to 59, five courses from 61 on ===== -/
def obP (f : Nat → Int32) (cr : Value) : va_E := .inr (7, [.int (f 0), .int (f 1), .int (f 2), .ref 57, .int (f 4), .int (f 5), .int (f 6), .int (f 7), .ref 58, cr, .int (f 10), .ref 59, .ref 60])
def pob (ν : Nat → va_E) (f : Nat → Int32) (cr : Value) (ba rw ac : Nat → Int32) : Nat → va_E := zu (zu (zu (zu ν 56 (obP f cr)) 57 (.inl (0, 4, .inl ba))) 58 (.inl (0, 12, .inl rw))) 59 (.inl (0, 4, .inl ac))
abbrev zC5 : Type := Nat × Nat × (Nat → Nat) × (Nat → Nat) × (Nat → Nat)
def pcX (ν : Nat → va_E) (a : Nat) (c : zC5) : Nat → va_E := pcr ν a c.1 c.2.1 c.2.2.1 c.2.2.2.1 c.2.2.2.2
def isCX (μ : Nat → va_E) (a : Nat) (c : zC5) : Prop := isCr μ a c.1 c.2.1 c.2.2.1 c.2.2.2.1 c.2.2.2.2
def pc5 (ν : Nat → va_E) (ψ : Nat → zC5) : Nat → va_E := pcX (pcX (pcX (pcX (pcX ν 61 (ψ 0)) 65 (ψ 1)) 69 (ψ 2)) 73 (ψ 3)) 77 (ψ 4)
section POB
variable {ν : Nat → va_E} {f : Nat → Int32} {cr : Value} {ba rw ac : Nat → Int32}
theorem pob_56 : pob ν f cr ba rw ac 56 = .inr (7, [.int (f 0), .int (f 1), .int (f 2), .ref 57, .int (f 4), .int (f 5), .int (f 6), .int (f 7), .ref 58, cr, .int (f 10), .ref 59, .ref 60]) := by
  unfold pob
  rw [zu_n (by decide), zu_n (by decide), zu_n (by decide), zu_s]
  rfl
theorem pob_57 : pob ν f cr ba rw ac 57 = .inl (0, 4, .inl ba) := by
  unfold pob
  rw [zu_n (by decide), zu_n (by decide), zu_s]
theorem pob_58 : pob ν f cr ba rw ac 58 = .inl (0, 12, .inl rw) := by
  unfold pob
  rw [zu_n (by decide), zu_s]
theorem pob_59 : pob ν f cr ba rw ac 59 = .inl (0, 4, .inl ac) := by
  unfold pob
  rw [zu_s]
theorem pob_o {b : Nat} (h : b < 56 ∨ 59 < b) : pob ν f cr ba rw ac b = ν b := by
  unfold pob
  rw [zu_n (by omega), zu_n (by omega), zu_n (by omega), zu_n (by omega)]
theorem pob_s56 {f' : Nat → Int32} {cr' : Value} : zu (pob ν f cr ba rw ac) 56 (obP f' cr') = pob ν f' cr' ba rw ac := by
  unfold pob
  rw [zu_sw (a := 59) (b := 56) (by decide), zu_sw (a := 58) (b := 56) (by decide), zu_sw (a := 57) (b := 56) (by decide), zu_zu]
theorem pob_s57 {x : Nat → Int32} : zu (pob ν f cr ba rw ac) 57 (.inl (0, 4, .inl x)) = pob ν f cr x rw ac := by
  unfold pob
  rw [zu_sw (a := 59) (b := 57) (by decide), zu_sw (a := 58) (b := 57) (by decide), zu_zu]
theorem pob_s58 {x : Nat → Int32} : zu (pob ν f cr ba rw ac) 58 (.inl (0, 12, .inl x)) = pob ν f cr ba x ac := by
  unfold pob
  rw [zu_sw (a := 59) (b := 58) (by decide), zu_zu]
theorem pob_s59 {x : Nat → Int32} : zu (pob ν f cr ba rw ac) 59 (.inl (0, 4, .inl x)) = pob ν f cr ba rw x := by
  unfold pob
  rw [zu_zu]
theorem obP_0 {v : Int32} : (Sum.inr (7, [.int v, .int (f 1), .int (f 2), .ref 57, .int (f 4), .int (f 5), .int (f 6), .int (f 7), .ref 58, cr, .int (f 10), .ref 59, .ref 60]) : va_E) = obP (un f 0 v) cr := rfl
theorem obP_1 {v : Int32} : (Sum.inr (7, [.int (f 0), .int v, .int (f 2), .ref 57, .int (f 4), .int (f 5), .int (f 6), .int (f 7), .ref 58, cr, .int (f 10), .ref 59, .ref 60]) : va_E) = obP (un f 1 v) cr := rfl
theorem obP_2 {v : Int32} : (Sum.inr (7, [.int (f 0), .int (f 1), .int v, .ref 57, .int (f 4), .int (f 5), .int (f 6), .int (f 7), .ref 58, cr, .int (f 10), .ref 59, .ref 60]) : va_E) = obP (un f 2 v) cr := rfl
theorem obP_4 {v : Int32} : (Sum.inr (7, [.int (f 0), .int (f 1), .int (f 2), .ref 57, .int v, .int (f 5), .int (f 6), .int (f 7), .ref 58, cr, .int (f 10), .ref 59, .ref 60]) : va_E) = obP (un f 4 v) cr := rfl
theorem obP_5 {v : Int32} : (Sum.inr (7, [.int (f 0), .int (f 1), .int (f 2), .ref 57, .int (f 4), .int v, .int (f 6), .int (f 7), .ref 58, cr, .int (f 10), .ref 59, .ref 60]) : va_E) = obP (un f 5 v) cr := rfl
theorem obP_6 {v : Int32} : (Sum.inr (7, [.int (f 0), .int (f 1), .int (f 2), .ref 57, .int (f 4), .int (f 5), .int v, .int (f 7), .ref 58, cr, .int (f 10), .ref 59, .ref 60]) : va_E) = obP (un f 6 v) cr := rfl
theorem obP_7 {v : Int32} : (Sum.inr (7, [.int (f 0), .int (f 1), .int (f 2), .ref 57, .int (f 4), .int (f 5), .int (f 6), .int v, .ref 58, cr, .int (f 10), .ref 59, .ref 60]) : va_E) = obP (un f 7 v) cr := rfl
theorem obP_10 {v : Int32} : (Sum.inr (7, [.int (f 0), .int (f 1), .int (f 2), .ref 57, .int (f 4), .int (f 5), .int (f 6), .int (f 7), .ref 58, cr, .int v, .ref 59, .ref 60]) : va_E) = obP (un f 10 v) cr := rfl
theorem obP_9 {cr' : Value} : (Sum.inr (7, [.int (f 0), .int (f 1), .int (f 2), .ref 57, .int (f 4), .int (f 5), .int (f 6), .int (f 7), .ref 58, cr', .int (f 10), .ref 59, .ref 60]) : va_E) = obP f cr' := rfl
end POB
section PC5
variable {ν : Nat → va_E} {ψ : Nat → zC5}
theorem pcX_o {a b : Nat} {c : zC5} (h : b < a ∨ a + 3 < b) : pcX ν a c b = ν b := pcr_o h
theorem pcX_is {a : Nat} {c : zC5} : isCX (pcX ν a c) a c := pcr_is
theorem pcX_id {a : Nat} {c : zC5} (h : isCX ν a c) : pcX ν a c = ν := pcr_id h
theorem pcX_z {a b : Nat} {c : zC5} {e : va_E} (h : b < a ∨ a + 3 < b) : zu (pcX ν a c) b e = pcX (zu ν b e) a c := pcr_out h
theorem pcX_cm {a b : Nat} {c d : zC5} (h : a + 3 < b ∨ b + 3 < a) : pcX (pcX ν a c) b d = pcX (pcX ν b d) a c := by
  show zu (zu (zu (zu (pcX ν a c) b _) (b + 1) _) (b + 2) _) (b + 3) _ = pcX (zu (zu (zu (zu ν b _) (b + 1) _) (b + 2) _) (b + 3) _) a c
  rw [pcX_z (by omega), pcX_z (by omega), pcX_z (by omega), pcX_z (by omega)]
theorem pcX_cc {a : Nat} {c d : zC5} : pcX (pcX ν a c) a d = pcX ν a d := by
  show zu (zu (zu (zu (zu (zu (zu (zu ν a _) (a + 1) _) (a + 2) _) (a + 3) _) a _) (a + 1) _) (a + 2) _) (a + 3) _ = _
  rw [zu_sw (a := a + 3) (b := a) (by omega), zu_sw (a := a + 2) (b := a) (by omega), zu_sw (a := a + 1) (b := a) (by omega), zu_zu,
    zu_sw (a := a + 3) (b := a + 1) (by omega), zu_sw (a := a + 2) (b := a + 1) (by omega), zu_zu,
    zu_sw (a := a + 3) (b := a + 2) (by omega), zu_zu, zu_zu]
  rfl
theorem isCX_fr {μ μ' : Nat → va_E} {a : Nat} {c : zC5} (h : isCX μ a c) (hf : ∀ i, a ≤ i → i ≤ a + 3 → μ' i = μ i) : isCX μ' a c := isCr_fr h hf
theorem pc5_o {b : Nat} (h : b < 61 ∨ 80 < b) : pc5 ν ψ b = ν b := by
  unfold pc5
  rw [pcX_o (by omega), pcX_o (by omega), pcX_o (by omega), pcX_o (by omega), pcX_o (by omega)]
theorem pc5_is {i : Nat} (hi : i < 5) : isCX (pc5 ν ψ) (61 + 4 * i) (ψ i) := by
  unfold pc5
  rcases (show i = 0 ∨ i = 1 ∨ i = 2 ∨ i = 3 ∨ i = 4 by omega) with e | e | e | e | e <;> subst e
  · exact isCX_fr pcX_is (fun j h1 h2 => by rw [pcX_o (by omega), pcX_o (by omega), pcX_o (by omega), pcX_o (by omega)])
  · exact isCX_fr pcX_is (fun j h1 h2 => by rw [pcX_o (by omega), pcX_o (by omega), pcX_o (by omega)])
  · exact isCX_fr pcX_is (fun j h1 h2 => by rw [pcX_o (by omega), pcX_o (by omega)])
  · exact isCX_fr pcX_is (fun j h1 h2 => by rw [pcX_o (by omega)])
  · exact pcX_is
theorem pc5_u {i : Nat} {c : zC5} (hi : i < 5) : pcX (pc5 ν ψ) (61 + 4 * i) c = pc5 ν (un ψ i c) := by
  unfold pc5
  rcases (show i = 0 ∨ i = 1 ∨ i = 2 ∨ i = 3 ∨ i = 4 by omega) with e | e | e | e | e <;> subst e
  · rw [pcX_cm (a := 77) (b := 61 + 4 * 0) (by omega), pcX_cm (a := 73) (b := 61 + 4 * 0) (by omega), pcX_cm (a := 69) (b := 61 + 4 * 0) (by omega), pcX_cm (a := 65) (b := 61 + 4 * 0) (by omega), pcX_cc]
    rfl
  · rw [pcX_cm (a := 77) (b := 61 + 4 * 1) (by omega), pcX_cm (a := 73) (b := 61 + 4 * 1) (by omega), pcX_cm (a := 69) (b := 61 + 4 * 1) (by omega), show 61 + 4 * 1 = 65 from rfl, pcX_cc]
    rfl
  · rw [pcX_cm (a := 77) (b := 61 + 4 * 2) (by omega), pcX_cm (a := 73) (b := 61 + 4 * 2) (by omega), show 61 + 4 * 2 = 69 from rfl, pcX_cc]
    rfl
  · rw [pcX_cm (a := 77) (b := 61 + 4 * 3) (by omega), show 61 + 4 * 3 = 73 from rfl, pcX_cc]
    rfl
  · rw [show 61 + 4 * 4 = 77 from rfl, pcX_cc]
    rfl
theorem pc5_id (h : ∀ i, i < 5 → isCX ν (61 + 4 * i) (ψ i)) : pc5 ν ψ = ν := by
  unfold pc5
  rw [pcX_id (h 0 (by decide)), pcX_id (h 1 (by decide)), pcX_id (h 2 (by decide)), pcX_id (h 3 (by decide)), pcX_id (h 4 (by decide))]
theorem pc5_z {b : Nat} {e : va_E} (h : b < 61 ∨ 80 < b) : zu (pc5 ν ψ) b e = pc5 (zu ν b e) ψ := by
  unfold pc5
  rw [pcX_z (by omega), pcX_z (by omega), pcX_z (by omega), pcX_z (by omega), pcX_z (by omega)]
end PC5
section C5
variable {G : zG} {n u : Nat} {ν : Nat → va_E} {ψ : Nat → zC5} {S : Nat → Nat → Nat} {sc ch : Int32}
theorem isCo_5 (h : isCo ν S sc ch) : isCo (pc5 ν ψ) S sc ch := isCo_fr h (fun i hi => pc5_o (by omega))
theorem c_passes5 (hco : isCo ν S sc ch) (hi : iS S) {β : Nat → Nat → Nat} {its : Nat → zI} {D : zD6} (hbk : isBk ν 17 β) (hD : dzB β its D) {i act : Nat} (h5 : i < 5) (hm : (ψ i).1 ≤ 16) (hact : act < 2 ^ 31) (hx : iX S (ψ i).2.2.1 (ψ i).2.2.2.1) : zMet G 4 M_Cr_passes [.ref (61 + 4 * i), .ref 5, .int (nI act)] n u (pc5 ν ψ) n u (zS (some (.int (nI (mon S D (ψ i).1 act (ψ i).2.2.1 (ψ i).2.2.2.1).2.2.2.2))) (fun q9 : Nat → Nat => pc5 ν (un ψ i ((ψ i).1 + 1, (mon S D (ψ i).1 act (ψ i).2.2.1 (ψ i).2.2.2.1).2.2.2.1, (mon S D (ψ i).1 act (ψ i).2.2.1 (ψ i).2.2.2.1).1, (mon S D (ψ i).1 act (ψ i).2.2.1 (ψ i).2.2.2.1).2.1, q9)))) := by
  have h := c_Cr_passes (G := G) (n := n) (u := u) (ν := pc5 ν ψ) (a := 61 + 4 * i) (cs := (ψ i).2.1) (q := (ψ i).2.2.2.2) (isCo_5 hco) hi (Or.inr (by omega)) (isBk_fr hbk (fun j a b => pc5_o (by omega))) hD hm hact hx
  rw [show pcr (pc5 ν ψ) (61 + 4 * i) (ψ i).1 (ψ i).2.1 (ψ i).2.2.1 (ψ i).2.2.2.1 (ψ i).2.2.2.2 = pc5 ν ψ from pcr_id (pc5_is h5)] at h
  rw [show (fun q9 : Nat → Nat => pc5 ν (un ψ i ((ψ i).1 + 1, (mon S D (ψ i).1 act (ψ i).2.2.1 (ψ i).2.2.2.1).2.2.2.1, (mon S D (ψ i).1 act (ψ i).2.2.1 (ψ i).2.2.2.1).1, (mon S D (ψ i).1 act (ψ i).2.2.1 (ψ i).2.2.2.1).2.1, q9))) = (fun q9 : Nat → Nat => pcr (pc5 ν ψ) (61 + 4 * i) ((ψ i).1 + 1) (mon S D (ψ i).1 act (ψ i).2.2.1 (ψ i).2.2.2.1).2.2.2.1 (mon S D (ψ i).1 act (ψ i).2.2.1 (ψ i).2.2.2.1).1 (mon S D (ψ i).1 act (ψ i).2.2.1 (ψ i).2.2.2.1).2.1 q9) from funext fun q9 => (pc5_u h5).symm]
  exact h
theorem c_pset5 (hco : isCo ν S sc ch) (hi : iS S) {i : Nat} (h5 : i < 5) (hp : ∀ j, (ψ i).2.2.1 j ≤ 6) : zMet G 0 M_Cr_promisedSet [.ref (61 + 4 * i), .ref 5] n u (pc5 ν ψ) n u (zE (some (.int (nI (psN (ψ i).2.2.1 (S 0 0))))) (pc5 ν ψ)) := by
  have h := c_Cr_promisedSet (G := G) (n := n) (u := u) (ν := pc5 ν ψ) (a := 61 + 4 * i) (mo := (ψ i).1) (cs := (ψ i).2.1) (fa := (ψ i).2.2.2.1) (q := (ψ i).2.2.2.2) (isCo_5 hco) hi (Or.inr (by omega)) hp
  rw [show pcr (pc5 ν ψ) (61 + 4 * i) (ψ i).1 (ψ i).2.1 (ψ i).2.2.1 (ψ i).2.2.2.1 (ψ i).2.2.2.2 = pc5 ν ψ from pcr_id (pc5_is h5)] at h
  exact h
theorem c_copy5 {i j : Nat} (h5 : i < 5) (h6 : j < 5) (hn : i ≠ j) : zMet G 1 M_Cr_copyFrom [.ref (61 + 4 * i), .ref (61 + 4 * j)] n u (pc5 ν ψ) n u (zE none (pc5 ν (un ψ i ((ψ j).1, (ψ j).2.1, (ψ j).2.2.1, (ψ j).2.2.2.1, (ψ i).2.2.2.2)))) := by
  have h := c_Cr_copyFrom (G := G) (n := n) (u := u) (ν := pc5 ν ψ) (a := 61 + 4 * i) (m0 := (ψ i).1) (c0 := (ψ i).2.1) (p0 := (ψ i).2.2.1) (f0 := (ψ i).2.2.2.1) (q0 := (ψ i).2.2.2.2) (pc5_is (ν := ν) (ψ := ψ) h6) (by omega)
  rw [show pcr (pc5 ν ψ) (61 + 4 * i) (ψ i).1 (ψ i).2.1 (ψ i).2.2.1 (ψ i).2.2.2.1 (ψ i).2.2.2.2 = pc5 ν ψ from pcr_id (pc5_is h5)] at h
  rw [← pc5_u h5]
  exact h
theorem c_copy05 {mo cs : Nat} {pr fa qb : Nat → Nat} (hb : isCr ν 13 mo cs pr fa qb) : zMet G 1 M_Cr_copyFrom [.ref 61, .ref 13] n u (pc5 ν ψ) n u (zE none (pc5 ν (un ψ 0 (mo, cs, pr, fa, (ψ 0).2.2.2.2)))) := by
  have h := c_Cr_copyFrom (G := G) (n := n) (u := u) (ν := pc5 ν ψ) (a := 61 + 4 * 0) (m0 := (ψ 0).1) (c0 := (ψ 0).2.1) (p0 := (ψ 0).2.2.1) (f0 := (ψ 0).2.2.2.1) (q0 := (ψ 0).2.2.2.2) (isCr_fr hb (fun i a b => pc5_o (by omega))) (by omega)
  rw [show pcr (pc5 ν ψ) (61 + 4 * 0) (ψ 0).1 (ψ 0).2.1 (ψ 0).2.2.1 (ψ 0).2.2.2.1 (ψ 0).2.2.2.2 = pc5 ν ψ from pcr_id (pc5_is (by decide))] at h
  rw [← pc5_u (by decide)]
  exact h
end C5
