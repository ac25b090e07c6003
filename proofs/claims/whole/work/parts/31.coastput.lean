def ob5 (S : Nat → Nat → Nat) (sc ch : Int32) : va_E := .inr (3, [.int (nI (S 0 0)), .ref 6, .ref 7, .ref 8, .int (nI (S 0 1)), .ref 9, .ref 10, .ref 11, .ref 12, .int (nI (S 0 3)), .int sc, .int ch, .ref 13, .ref 17, .int (nI (S 0 2)), .ref 22, .ref 23])
def pco (ν : Nat → va_E) (S : Nat → Nat → Nat) (sc ch : Int32) : Nat → va_E := zu (zu (zu (zu (zu (zu (zu (zu (zu ν 5 (ob5 S sc ch)) 6 (.inl (0, 6, .inl (fun j => nI (S 1 j))))) 7 (.inl (0, 6, .inl (fun j => nI (S 2 j))))) 8 (.inl (0, 6, .inl (fun j => nI (S 3 j))))) 9 (.inl (0, 6, .inl (fun j => nI (S 4 j))))) 10 (.inl (0, 6, .inl (fun j => nI (S 5 j))))) 11 (.inl (0, 6, .inl (fun j => nI (S 6 j))))) 12 (.inl (0, 6, .inl (fun j => nI (S 7 j))))) 22 (.inl (0, 24, .inl (fun j => nI (S 8 j))))
/-- the class's coast, put into a heap -/
def pcc (ν : Nat → va_E) (S : Nat → Nat → Nat) (sc ch : Int32) (mo cs : Nat) (pr fa q : Nat → Nat) : Nat → va_E := pcr (pco ν S sc ch) 13 mo cs pr fa q
section PCC
variable {ν : Nat → va_E} {S : Nat → Nat → Nat} {sc ch : Int32} {mo cs : Nat} {pr fa q : Nat → Nat}
theorem pco_5 : pco ν S sc ch 5 = ob5 S sc ch := by
  unfold pco
  rw [zu_n (by decide), zu_n (by decide), zu_n (by decide), zu_n (by decide), zu_n (by decide), zu_n (by decide), zu_n (by decide), zu_n (by decide), zu_s]
theorem pco_6 : pco ν S sc ch 6 = .inl (0, 6, .inl (fun j => nI (S 1 j))) := by
  unfold pco
  rw [zu_n (by decide), zu_n (by decide), zu_n (by decide), zu_n (by decide), zu_n (by decide), zu_n (by decide), zu_n (by decide), zu_s]
theorem pco_7 : pco ν S sc ch 7 = .inl (0, 6, .inl (fun j => nI (S 2 j))) := by
  unfold pco
  rw [zu_n (by decide), zu_n (by decide), zu_n (by decide), zu_n (by decide), zu_n (by decide), zu_n (by decide), zu_s]
theorem pco_8 : pco ν S sc ch 8 = .inl (0, 6, .inl (fun j => nI (S 3 j))) := by
  unfold pco
  rw [zu_n (by decide), zu_n (by decide), zu_n (by decide), zu_n (by decide), zu_n (by decide), zu_s]
theorem pco_9 : pco ν S sc ch 9 = .inl (0, 6, .inl (fun j => nI (S 4 j))) := by
  unfold pco
  rw [zu_n (by decide), zu_n (by decide), zu_n (by decide), zu_n (by decide), zu_s]
theorem pco_10 : pco ν S sc ch 10 = .inl (0, 6, .inl (fun j => nI (S 5 j))) := by
  unfold pco
  rw [zu_n (by decide), zu_n (by decide), zu_n (by decide), zu_s]
theorem pco_11 : pco ν S sc ch 11 = .inl (0, 6, .inl (fun j => nI (S 6 j))) := by
  unfold pco
  rw [zu_n (by decide), zu_n (by decide), zu_s]
theorem pco_12 : pco ν S sc ch 12 = .inl (0, 6, .inl (fun j => nI (S 7 j))) := by
  unfold pco
  rw [zu_n (by decide), zu_s]
theorem pco_22 : pco ν S sc ch 22 = .inl (0, 24, .inl (fun j => nI (S 8 j))) := by
  unfold pco
  rw [zu_s]
theorem pco_o {b : Nat} (h : b < 5 ∨ (12 < b ∧ b < 22) ∨ 22 < b) : pco ν S sc ch b = ν b := by
  unfold pco
  rw [zu_n (by omega), zu_n (by omega), zu_n (by omega), zu_n (by omega), zu_n (by omega), zu_n (by omega), zu_n (by omega), zu_n (by omega), zu_n (by omega)]
theorem pco_s6 {f : Nat → Nat} : zu (pco ν S sc ch) 6 (.inl (0, 6, .inl (fun j => nI (f j)))) = pco ν (un S 1 f) sc ch := by
  unfold pco
  rw [zu_sw (a := 22) (b := 6) (by decide), zu_sw (a := 12) (b := 6) (by decide), zu_sw (a := 11) (b := 6) (by decide), zu_sw (a := 10) (b := 6) (by decide), zu_sw (a := 9) (b := 6) (by decide), zu_sw (a := 8) (b := 6) (by decide), zu_sw (a := 7) (b := 6) (by decide), zu_zu]
  rfl
theorem pco_s7 {f : Nat → Nat} : zu (pco ν S sc ch) 7 (.inl (0, 6, .inl (fun j => nI (f j)))) = pco ν (un S 2 f) sc ch := by
  unfold pco
  rw [zu_sw (a := 22) (b := 7) (by decide), zu_sw (a := 12) (b := 7) (by decide), zu_sw (a := 11) (b := 7) (by decide), zu_sw (a := 10) (b := 7) (by decide), zu_sw (a := 9) (b := 7) (by decide), zu_sw (a := 8) (b := 7) (by decide), zu_zu]
  rfl
theorem pco_s8 {f : Nat → Nat} : zu (pco ν S sc ch) 8 (.inl (0, 6, .inl (fun j => nI (f j)))) = pco ν (un S 3 f) sc ch := by
  unfold pco
  rw [zu_sw (a := 22) (b := 8) (by decide), zu_sw (a := 12) (b := 8) (by decide), zu_sw (a := 11) (b := 8) (by decide), zu_sw (a := 10) (b := 8) (by decide), zu_sw (a := 9) (b := 8) (by decide), zu_zu]
  rfl
theorem pco_s9 {f : Nat → Nat} : zu (pco ν S sc ch) 9 (.inl (0, 6, .inl (fun j => nI (f j)))) = pco ν (un S 4 f) sc ch := by
  unfold pco
  rw [zu_sw (a := 22) (b := 9) (by decide), zu_sw (a := 12) (b := 9) (by decide), zu_sw (a := 11) (b := 9) (by decide), zu_sw (a := 10) (b := 9) (by decide), zu_zu]
  rfl
theorem pco_s10 {f : Nat → Nat} : zu (pco ν S sc ch) 10 (.inl (0, 6, .inl (fun j => nI (f j)))) = pco ν (un S 5 f) sc ch := by
  unfold pco
  rw [zu_sw (a := 22) (b := 10) (by decide), zu_sw (a := 12) (b := 10) (by decide), zu_sw (a := 11) (b := 10) (by decide), zu_zu]
  rfl
theorem pco_s11 {f : Nat → Nat} : zu (pco ν S sc ch) 11 (.inl (0, 6, .inl (fun j => nI (f j)))) = pco ν (un S 6 f) sc ch := by
  unfold pco
  rw [zu_sw (a := 22) (b := 11) (by decide), zu_sw (a := 12) (b := 11) (by decide), zu_zu]
  rfl
theorem pco_s12 {f : Nat → Nat} : zu (pco ν S sc ch) 12 (.inl (0, 6, .inl (fun j => nI (f j)))) = pco ν (un S 7 f) sc ch := by
  unfold pco
  rw [zu_sw (a := 22) (b := 12) (by decide), zu_zu]
  rfl
theorem pco_s22 {f : Nat → Nat} : zu (pco ν S sc ch) 22 (.inl (0, 24, .inl (fun j => nI (f j)))) = pco ν (un S 8 f) sc ch := by
  unfold pco
  rw [zu_zu]
  rfl
theorem pco_s5 {S' : Nat → Nat → Nat} {sc' ch' : Int32} (h : ∀ k, k ≠ 0 → S' k = S k) : zu (pco ν S sc ch) 5 (ob5 S' sc' ch') = pco ν S' sc' ch' := by
  unfold pco
  rw [zu_sw (a := 22) (b := 5) (by decide), zu_sw (a := 12) (b := 5) (by decide), zu_sw (a := 11) (b := 5) (by decide), zu_sw (a := 10) (b := 5) (by decide), zu_sw (a := 9) (b := 5) (by decide), zu_sw (a := 8) (b := 5) (by decide), zu_sw (a := 7) (b := 5) (by decide), zu_sw (a := 6) (b := 5) (by decide), zu_zu, h 1 (by decide), h 2 (by decide), h 3 (by decide), h 4 (by decide), h 5 (by decide), h 6 (by decide), h 7 (by decide), h 8 (by decide)]
theorem ob5_ng {x : Nat} : (Sum.inr (3, [.int (nI x), .ref 6, .ref 7, .ref 8, .int (nI (S 0 1)), .ref 9, .ref 10, .ref 11, .ref 12, .int (nI (S 0 3)), .int sc, .int ch, .ref 13, .ref 17, .int (nI (S 0 2)), .ref 22, .ref 23]) : va_E) = ob5 (un S 0 (un (S 0) 0 x)) sc ch := rfl
theorem ob5_nw {x : Nat} : (Sum.inr (3, [.int (nI (S 0 0)), .ref 6, .ref 7, .ref 8, .int (nI x), .ref 9, .ref 10, .ref 11, .ref 12, .int (nI (S 0 3)), .int sc, .int ch, .ref 13, .ref 17, .int (nI (S 0 2)), .ref 22, .ref 23]) : va_E) = ob5 (un S 0 (un (S 0) 1 x)) sc ch := rfl
theorem ob5_en {x : Nat} : (Sum.inr (3, [.int (nI (S 0 0)), .ref 6, .ref 7, .ref 8, .int (nI (S 0 1)), .ref 9, .ref 10, .ref 11, .ref 12, .int (nI x), .int sc, .int ch, .ref 13, .ref 17, .int (nI (S 0 2)), .ref 22, .ref 23]) : va_E) = ob5 (un S 0 (un (S 0) 3 x)) sc ch := rfl
theorem ob5_nr {x : Nat} : (Sum.inr (3, [.int (nI (S 0 0)), .ref 6, .ref 7, .ref 8, .int (nI (S 0 1)), .ref 9, .ref 10, .ref 11, .ref 12, .int (nI (S 0 3)), .int sc, .int ch, .ref 13, .ref 17, .int (nI x), .ref 22, .ref 23]) : va_E) = ob5 (un S 0 (un (S 0) 2 x)) sc ch := rfl
theorem ob5_sc {y : Int32} : (Sum.inr (3, [.int (nI (S 0 0)), .ref 6, .ref 7, .ref 8, .int (nI (S 0 1)), .ref 9, .ref 10, .ref 11, .ref 12, .int (nI (S 0 3)), .int y, .int ch, .ref 13, .ref 17, .int (nI (S 0 2)), .ref 22, .ref 23]) : va_E) = ob5 S y ch := rfl
theorem ob5_ch {y : Int32} : (Sum.inr (3, [.int (nI (S 0 0)), .ref 6, .ref 7, .ref 8, .int (nI (S 0 1)), .ref 9, .ref 10, .ref 11, .ref 12, .int (nI (S 0 3)), .int sc, .int y, .ref 13, .ref 17, .int (nI (S 0 2)), .ref 22, .ref 23]) : va_E) = ob5 S sc y := rfl
theorem pcc_5 : pcc ν S sc ch mo cs pr fa q 5 = .inr (3, [.int (nI (S 0 0)), .ref 6, .ref 7, .ref 8, .int (nI (S 0 1)), .ref 9, .ref 10, .ref 11, .ref 12, .int (nI (S 0 3)), .int sc, .int ch, .ref 13, .ref 17, .int (nI (S 0 2)), .ref 22, .ref 23]) := by
  unfold pcc
  rw [pcr_o (by decide), pco_5]
  rfl
theorem pcc_6 : pcc ν S sc ch mo cs pr fa q 6 = .inl (0, 6, .inl (fun j => nI (S 1 j))) := by
  unfold pcc
  rw [pcr_o (by decide), pco_6]
theorem pcc_7 : pcc ν S sc ch mo cs pr fa q 7 = .inl (0, 6, .inl (fun j => nI (S 2 j))) := by
  unfold pcc
  rw [pcr_o (by decide), pco_7]
theorem pcc_8 : pcc ν S sc ch mo cs pr fa q 8 = .inl (0, 6, .inl (fun j => nI (S 3 j))) := by
  unfold pcc
  rw [pcr_o (by decide), pco_8]
theorem pcc_9 : pcc ν S sc ch mo cs pr fa q 9 = .inl (0, 6, .inl (fun j => nI (S 4 j))) := by
  unfold pcc
  rw [pcr_o (by decide), pco_9]
theorem pcc_10 : pcc ν S sc ch mo cs pr fa q 10 = .inl (0, 6, .inl (fun j => nI (S 5 j))) := by
  unfold pcc
  rw [pcr_o (by decide), pco_10]
theorem pcc_11 : pcc ν S sc ch mo cs pr fa q 11 = .inl (0, 6, .inl (fun j => nI (S 6 j))) := by
  unfold pcc
  rw [pcr_o (by decide), pco_11]
theorem pcc_12 : pcc ν S sc ch mo cs pr fa q 12 = .inl (0, 6, .inl (fun j => nI (S 7 j))) := by
  unfold pcc
  rw [pcr_o (by decide), pco_12]
theorem pcc_22 : pcc ν S sc ch mo cs pr fa q 22 = .inl (0, 24, .inl (fun j => nI (S 8 j))) := by
  unfold pcc
  rw [pcr_o (by decide), pco_22]
theorem pcc_13 : pcc ν S sc ch mo cs pr fa q 13 = .inr (4, [.int (nI mo), .ref 14, .ref 15, .int (nI cs), .ref 16]) := pcr_0
theorem pcc_14 : pcc ν S sc ch mo cs pr fa q 14 = .inl (0, 6, .inl (fun j => nI (pr j))) := pcr_1
theorem pcc_15 : pcc ν S sc ch mo cs pr fa q 15 = .inl (0, 6, .inl (fun j => nI (fa j))) := pcr_2
theorem pcc_16 : pcc ν S sc ch mo cs pr fa q 16 = .inl (0, 5, .inl (fun j => nI (q j))) := pcr_3
theorem pcc_o {b : Nat} (h : b < 5 ∨ (16 < b ∧ b < 22) ∨ 22 < b) : pcc ν S sc ch mo cs pr fa q b = ν b := by
  unfold pcc
  rw [pcr_o (by omega), pco_o (by omega)]
theorem pcr_out {a b : Nat} {c : va_E} (h : b < a ∨ a + 3 < b) : zu (pcr ν a mo cs pr fa q) b c = pcr (zu ν b c) a mo cs pr fa q := by
  unfold pcr
  rw [zu_sw (a := a + 3) (b := b) (by omega), zu_sw (a := a + 2) (b := b) (by omega), zu_sw (a := a + 1) (b := b) (by omega), zu_sw (a := a) (b := b) (by omega)]
theorem pcc_s6 {f : Nat → Nat} : zu (pcc ν S sc ch mo cs pr fa q) 6 (.inl (0, 6, .inl (fun j => nI (f j)))) = pcc ν (un S 1 f) sc ch mo cs pr fa q := by
  unfold pcc
  rw [pcr_out (by decide), pco_s6]
theorem pcc_s7 {f : Nat → Nat} : zu (pcc ν S sc ch mo cs pr fa q) 7 (.inl (0, 6, .inl (fun j => nI (f j)))) = pcc ν (un S 2 f) sc ch mo cs pr fa q := by
  unfold pcc
  rw [pcr_out (by decide), pco_s7]
theorem pcc_s8 {f : Nat → Nat} : zu (pcc ν S sc ch mo cs pr fa q) 8 (.inl (0, 6, .inl (fun j => nI (f j)))) = pcc ν (un S 3 f) sc ch mo cs pr fa q := by
  unfold pcc
  rw [pcr_out (by decide), pco_s8]
theorem pcc_s9 {f : Nat → Nat} : zu (pcc ν S sc ch mo cs pr fa q) 9 (.inl (0, 6, .inl (fun j => nI (f j)))) = pcc ν (un S 4 f) sc ch mo cs pr fa q := by
  unfold pcc
  rw [pcr_out (by decide), pco_s9]
theorem pcc_s10 {f : Nat → Nat} : zu (pcc ν S sc ch mo cs pr fa q) 10 (.inl (0, 6, .inl (fun j => nI (f j)))) = pcc ν (un S 5 f) sc ch mo cs pr fa q := by
  unfold pcc
  rw [pcr_out (by decide), pco_s10]
theorem pcc_s11 {f : Nat → Nat} : zu (pcc ν S sc ch mo cs pr fa q) 11 (.inl (0, 6, .inl (fun j => nI (f j)))) = pcc ν (un S 6 f) sc ch mo cs pr fa q := by
  unfold pcc
  rw [pcr_out (by decide), pco_s11]
theorem pcc_s12 {f : Nat → Nat} : zu (pcc ν S sc ch mo cs pr fa q) 12 (.inl (0, 6, .inl (fun j => nI (f j)))) = pcc ν (un S 7 f) sc ch mo cs pr fa q := by
  unfold pcc
  rw [pcr_out (by decide), pco_s12]
theorem pcc_s22 {f : Nat → Nat} : zu (pcc ν S sc ch mo cs pr fa q) 22 (.inl (0, 24, .inl (fun j => nI (f j)))) = pcc ν (un S 8 f) sc ch mo cs pr fa q := by
  unfold pcc
  rw [pcr_out (by decide), pco_s22]
theorem pcc_s5 {S' : Nat → Nat → Nat} {sc' ch' : Int32} (h : ∀ k, k ≠ 0 → S' k = S k) : zu (pcc ν S sc ch mo cs pr fa q) 5 (ob5 S' sc' ch') = pcc ν S' sc' ch' mo cs pr fa q := by
  unfold pcc
  rw [pcr_out (by decide), pco_s5 h]
theorem un0 {f : Nat → Nat} : ∀ k, k ≠ 0 → (un S 0 f) k = S k := fun k h => un_n h
theorem pcc_s13 {m c : Nat} : zu (pcc ν S sc ch mo cs pr fa q) 13 (.inr (4, [.int (nI m), .ref 14, .ref 15, .int (nI c), .ref 16])) = pcc ν S sc ch m c pr fa q := pcr_s0
theorem pcc_s14 {f : Nat → Nat} : zu (pcc ν S sc ch mo cs pr fa q) 14 (.inl (0, 6, .inl (fun j => nI (f j)))) = pcc ν S sc ch mo cs f fa q := pcr_s1
theorem pcc_s15 {f : Nat → Nat} : zu (pcc ν S sc ch mo cs pr fa q) 15 (.inl (0, 6, .inl (fun j => nI (f j)))) = pcc ν S sc ch mo cs pr f q := pcr_s2
theorem pcc_out {b : Nat} {c : va_E} (h : b < 5 ∨ (16 < b ∧ b < 22) ∨ 22 < b) : zu (pcc ν S sc ch mo cs pr fa q) b c = pcc (zu ν b c) S sc ch mo cs pr fa q := by
  unfold pcc pco
  rw [pcr_out (by omega)]
  congr 1
  rw [zu_sw (a := 22) (b := b) (by omega), zu_sw (a := 12) (b := b) (by omega), zu_sw (a := 11) (b := b) (by omega), zu_sw (a := 10) (b := b) (by omega), zu_sw (a := 9) (b := b) (by omega), zu_sw (a := 8) (b := b) (by omega), zu_sw (a := 7) (b := b) (by omega), zu_sw (a := 6) (b := b) (by omega), zu_sw (a := 5) (b := b) (by omega)]
theorem isCo_pcc : isCo (pcc ν S sc ch mo cs pr fa q) S sc ch := ⟨pcc_5, pcc_6, pcc_7, pcc_8, pcc_9, pcc_10, pcc_11, pcc_12, pcc_22⟩
theorem isCo_pco : isCo (pco ν S sc ch) S sc ch := ⟨pco_5, pco_6, pco_7, pco_8, pco_9, pco_10, pco_11, pco_12, pco_22⟩
theorem isCr_pcc : isCr (pcc ν S sc ch mo cs pr fa q) 13 mo cs pr fa q := ⟨pcc_13, pcc_14, pcc_15, pcc_16⟩
theorem isBk_pcc {β : Nat → Nat → Nat} (h : isBk ν 17 β) : isBk (pcc ν S sc ch mo cs pr fa q) 17 β := isBk_fr h (fun i a b => pcc_o (by omega))
theorem isBk_pco {β : Nat → Nat → Nat} (h : isBk ν 17 β) : isBk (pco ν S sc ch) 17 β := isBk_fr h (fun i a b => pco_o (by omega))
theorem pcc_id (h1 : isCo ν S sc ch) (h2 : isCr ν 13 mo cs pr fa q) : pcc ν S sc ch mo cs pr fa q = ν := by
  obtain ⟨m5, m6, m7, m8, m9, m10, m11, m12, m22⟩ := h1
  have e : pco ν S sc ch = ν := by
    unfold pco
    rw [zu_id (show ν 5 = ob5 S sc ch from m5), zu_id m6, zu_id m7, zu_id m8, zu_id m9, zu_id m10, zu_id m11, zu_id m12, zu_id m22]
  unfold pcc
  rw [e, pcr_id h2]
end PCC
section ZMU
variable {G : zG} {d : Nat} {M : zM} {pc : Nat} {lv st : List Value} {n u : Nat} {μ μ' : Nat → va_E} {nF uF : Nat} {Φ : zP}
theorem z_mu (h : μ = μ') (k : zW G d M pc lv st n u μ' nF uF Φ) : zW G d M pc lv st n u μ nF uF Φ := by
  rw [h]
  exact k
end ZMU
/-- behind a call that put another coast: what cK asks -/
theorem cK_of {μ : Nat → va_E} {κ : zκ} (h : cst μ κ) {S : Nat → Nat → Nat} {mo cs : Nat} {pr fa q : Nat → Nat} {sc ch : Int32} {r : Int32} {rc : Nat} {D : zD6} (hr : rc = κ.2.2.2.2.2.2.1) (hD : D = κ.2.2.2.2.2.2.2) (hk : iK (S, mo, pr, fa, sc, ch, rc, D)) : cK μ (r, (S, mo, pr, fa, sc, ch, rc, D)) (some (.int r)) (pcc μ S sc ch mo cs pr fa q) := by
  obtain ⟨S0, mo0, pr0, fa0, sc0, ch0, rc0, D0⟩ := κ
  obtain ⟨h1, h2, ⟨β, its, h3, h3a, h3b⟩, ⟨c, h4⟩, h5⟩ := h
  subst hr; subst hD
  exact ⟨rfl, ⟨isCo_pcc, ⟨cs, q, isCr_pcc⟩, ⟨β, its, isBk_pcc h3, h3a, h3b⟩, ⟨c, by rw [pcc_o (by decide)]; exact h4⟩, hk⟩, fun i hi => pcc_o (by omega)⟩
theorem mK_of {μ : Nat → va_E} {s s' : Nat → Int32} {κ : zκ} (h : mst μ s κ) {S : Nat → Nat → Nat} {mo : Nat} {pr fa : Nat → Nat} {sc ch : Int32} {rc : Nat} {ρ : Nat → Int32} {D : zD6} {r : Int32} (hs : sEq s s') (hd : dzM ρ rc D) (hk : iK (S, mo, pr, fa, sc, ch, rc, D)) : mK μ s (r, (S, mo, pr, fa, sc, ch, rc, D)) (some (.int r)) (pm μ s' (mk S mo pr fa sc ch rc ρ)) :=
  ⟨rfl, s', hs, mst_pm h hd hk, fun i hi => pm_o (by omega)⟩
