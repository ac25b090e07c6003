/-! ===== all plans, in their order ===== -/
def dgt (N r p : Nat) : Nat := p / N ^ r % N
def rnA (S : Nat → Nat → Nat) (D : zD6) : Nat → Nat → Nat → zT3 → Nat × zT3
  | 0, _, a, t => (a, t)
  | r + 1, p, a, t => rnA S D r p (a + wor S D (dgt (S 0 0 + 1) r p) t) (stp S D (dgt (S 0 0 + 1) r p) t)
def hdA (N : Nat) : Nat → Nat → Nat → Nat
  | 0, _, h => h
  | r + 1, p, h => hdA N r p (if dgt N r p = 0 then h else h + 1)
def fdN {α : Type} (f : Nat → α → α) : Nat → Nat → α → α
  | 0, _, s => s
  | c + 1, b, s => fdN f c (b + 1) (f b s)
/-- most (one more; 0: none yet), how many, which -/
def bsS (w p : Nat) (x : Nat × Int32 × Nat) : Nat × Int32 × Nat := if x.1 < w + 1 then (w + 1, nI 1, p) else if x.1 = w + 1 then (x.1, x.2.1 + nI 1, x.2.2) else x
def fwS (set : Int32) (ps h F : Nat) : Nat := if set &&& (nI ps ^^^ (-1)) = 0 ∧ h < F then h else F
abbrev zSr : Type := (Nat × Int32 × Nat) × Nat × Nat
def wgh (set : Int32) (p w ps h : Nat) (σ : zSr) : zSr := (bsS w p σ.1, fwS set ps h σ.2.1, σ.2.2 ||| ps)
def lfS (S : Nat → Nat → Nat) (D : zD6) (set : Int32) (r a h : Nat) (t : zT3) (p : Nat) (σ : zSr) : zSr := wgh set p (rnA S D r p a t).1 (psN (rnA S D r p a t).2.2.1 (S 0 0)) (hdA (S 0 0 + 1) r p h) σ
theorem fdN_add {α : Type} {f : Nat → α → α} : ∀ c1 c2 b s, fdN f (c1 + c2) b s = fdN f c2 (b + c1) (fdN f c1 b s)
  | 0, c2, b, s => by rw [Nat.zero_add]; rfl
  | c1 + 1, c2, b, s => by
    rw [show c1 + 1 + c2 = (c1 + c2) + 1 by omega]
    show fdN f (c1 + c2) (b + 1) (f b s) = fdN f c2 (b + (c1 + 1)) (fdN f c1 (b + 1) (f b s))
    rw [fdN_add c1 c2 (b + 1), show b + 1 + c1 = b + (c1 + 1) by omega]
theorem fdN_ext {α : Type} {f g : Nat → α → α} : ∀ c b s, (∀ p, b ≤ p → p < b + c → ∀ s, f p s = g p s) → fdN f c b s = fdN g c b s
  | 0, b, s, _ => rfl
  | c + 1, b, s, h => by
    show fdN f c (b + 1) (f b s) = fdN g c (b + 1) (g b s)
    rw [h b (Nat.le_refl _) (by omega)]
    exact fdN_ext c (b + 1) _ (fun p h1 h2 => h p (by omega) (by omega))
theorem dgt_in {N r x d q : Nat} (hd : d < N) (hq : q < N ^ r) : dgt N r ((x * N + d) * N ^ r + q) = d := by
  unfold dgt
  rw [Nat.mul_comm, Nat.mul_add_div (by omega), Nat.div_eq_of_lt hq, Nat.add_zero, Nat.mul_comm x N, Nat.mul_add_mod, Nat.mod_eq_of_lt hd]
theorem dgt_lt {N r p : Nat} (h : 0 < N) : dgt N r p < N := Nat.mod_lt _ h
theorem dgt_up {N m P d : Nat} (hd : d < N) : dgt N (m + 1) (P * N + d) = dgt N m P := by
  unfold dgt
  rw [Nat.pow_succ, Nat.mul_comm (N ^ m) N, ← Nat.div_div_eq_div_mul, Nat.mul_comm P N, Nat.mul_add_div (by omega), Nat.div_eq_of_lt hd, Nat.add_zero]
theorem dgt_0 {N P d : Nat} (hd : d < N) : dgt N 0 (P * N + d) = d := by
  unfold dgt
  rw [Nat.pow_zero, Nat.div_one, Nat.mul_comm, Nat.mul_add_mod, Nat.mod_eq_of_lt hd]
theorem lfS_in {S : Nat → Nat → Nat} {D : zD6} {set : Int32} {r a h d x p : Nat} {t : zT3} (hd : d < S 0 0 + 1) (h1 : (x * (S 0 0 + 1) + d) * (S 0 0 + 1) ^ r ≤ p) (h2 : p < (x * (S 0 0 + 1) + d) * (S 0 0 + 1) ^ r + (S 0 0 + 1) ^ r) (s : zSr) : lfS S D set (r + 1) a h t p s = lfS S D set r (a + wor S D d t) (if d = 0 then h else h + 1) (stp S D d t) p s := by
  have e : dgt (S 0 0 + 1) r p = d := by
    have := dgt_in (N := S 0 0 + 1) (r := r) (x := x) (d := d) (q := p - (x * (S 0 0 + 1) + d) * (S 0 0 + 1) ^ r) hd (by omega)
    rwa [show (x * (S 0 0 + 1) + d) * (S 0 0 + 1) ^ r + (p - (x * (S 0 0 + 1) + d) * (S 0 0 + 1) ^ r) = p by omega] at this
  unfold lfS
  rw [rnA, hdA, e]
/-- what the class's object knows of the search -/
def SR (S : Nat → Nat → Nat) (K : Nat) (set : Int32) (f ba : Nat → Int32) (σ : zSr) : Prop := f 0 = nI K ∧ f 10 = set ∧ f 1 = hdI σ.1.1 ∧ f 2 = σ.1.2.1 ∧ f 4 = nI σ.2.1 ∧ f 5 = nI σ.2.2 ∧ (σ.1.1 ≠ 0 → ∀ i, i < K → ba i = nI (dgt (S 0 0 + 1) (K - 1 - i) σ.1.2.2)) ∧ σ.1.1 ≤ 1000 ∧ σ.2.1 ≤ 5
theorem i0 (c : Int32) : c + nI 0 = c := by
  show c + 0 = c
  exact Int32.add_zero c
set_option maxHeartbeats 4000000 in
set_option maxRecDepth 100000 in
theorem c_Pl_weigh {G : zG} {n u : Nat} {ν : Nat → va_E} {S : Nat → Nat → Nat} {sc ch : Int32} {bh : Nat → Option Nat} {β : Nat → Nat → Nat} {its : Nat → zI} {D : zD6} (hco : isCo ν S sc ch) (hi : iS S) (hbk : isBk ν 17 β) (hD : dzB β its D) (h60 : ν 60 = .inl (3, 5, .inr (.inr (.inr (.inr bh))))) (hbh : ∀ j, j < 5 → bh j = some (61 + 4 * j)) {f ba ac rw : Nat → Int32} {ψ : Nat → zC5} {K p w h : Nat} {set : Int32} {σ : zSr} (hK : K ≤ 4) (hs : SR S K set f ba σ) (hw : w ≤ 900) (hh : h ≤ 4) (hac : ∀ i, i < K → ac i = nI (dgt (S 0 0 + 1) (K - 1 - i) p)) (hp : ∀ j, (ψ K).2.2.1 j ≤ 6) :
    zMet G 2 M_Pl_weigh [.ref 56, .int (nI w), .int (nI h)] n u (pc5 (pob ν f (.ref 5) ba rw ac) ψ) n u (fun r μ' => r = none ∧ ∃ f' ba' : Nat → Int32, μ' = pc5 (pob ν f' (.ref 5) ba' rw ac) ψ ∧ SR S K set f' ba' (wgh set p w (psN (ψ K).2.2.1 (S 0 0)) h σ) ∧ f' 6 = f 6 ∧ f' 7 = f 7) := by
  obtain ⟨s0, s10, s1, s2, s4, s5, s7, s8, s9⟩ := hs
  have hi0 := hi.1
  generalize hps : psN (ψ K).2.2.1 (S 0 0) = ps
  refine z_start (lv := [.ref 56, .int (nI w), .int (nI h), .retAddr 0]) K_Pl_weigh rfl rfl (Nat.le_refl _) (Nat.le_refl _) (Nat.le_of_ble_eq_true rfl) rfl ?_
  refine z_il1 (pc' := 1) 0 rfl rfl ?_
  refine z_al0 (pc' := 2) 1 rfl rfl ?_
  refine z_getf (pc' := 5) 2 rfl rfl f_Pl_59_7 (by first | (rw [pc5_o (by decide)]; first | exact pob_56 | exact pob_57 | exact pob_58 | exact pob_59 | (rw [pob_o (by decide)]; first | assumption | exact hco.1)) | exact (pc5_is (by omega)).1) (by rfl) ?_
  rw [s1]
  first | refine z_icmp_le (pc' := 8) 3 rfl rfl (tgt := 32) rfl (fun h5 => ?_) (fun h5 => ?_)
  · refine z_al0 (pc' := 33) 18 rfl rfl ?_
    refine z_dup rfl (pc' := 34) 19 rfl rfl ?_
    refine z_getf (pc' := 37) 20 rfl rfl f_Pl_83_7 (by first | (rw [pc5_o (by decide)]; first | exact pob_56 | exact pob_57 | exact pob_58 | exact pob_59 | (rw [pob_o (by decide)]; first | assumption | exact hco.1)) | exact (pc5_is (by omega)).1) (by rfl) ?_
    rw [s2]
    refine z_il1 (pc' := 38) 21 rfl rfl ?_
    refine z_al0 (pc' := 39) 22 rfl rfl ?_
    refine z_getf (pc' := 42) 23 rfl rfl f_Pl_59_7 (by first | (rw [pc5_o (by decide)]; first | exact pob_56 | exact pob_57 | exact pob_58 | exact pob_59 | (rw [pob_o (by decide)]; first | assumption | exact hco.1)) | exact (pc5_is (by omega)).1) (by rfl) ?_
    rw [s1]
    first | refine z_icmp_ne (pc' := 45) 24 rfl rfl (tgt := 49) rfl (fun h42 => ?_) (fun h42 => ?_)
    · refine z_iconst (v := nI 0) (by decide) (pc' := 50) 27 rfl rfl ?_
      first | refine z_iaddN (pc' := 51) 28 rfl rfl ?_ | refine z_iadd (pc' := 51) 28 rfl rfl ?_
      rw [i0]
      refine z_putf (pc' := 54) 29 rfl rfl f_Pl_83_7 (by first | (rw [pc5_o (by decide)]; first | exact pob_56 | exact pob_57 | exact pob_58 | exact pob_59 | (rw [pob_o (by decide)]; first | assumption | exact hco.1)) | exact (pc5_is (by omega)).1) rfl rfl (by rfl) (by rfl) ?_
      dsimp only [List.set]
      rw [obP_2, pc5_z (by decide), pob_s56]
      refine z_al0 (pc' := 55) 30 rfl rfl ?_
      refine z_getf (pc' := 58) 31 rfl rfl f_Pl_23_7 (by first | (rw [pc5_o (by decide)]; first | exact pob_56 | exact pob_57 | exact pob_58 | exact pob_59 | (rw [pob_o (by decide)]; first | assumption | exact hco.1)) | exact (pc5_is (by omega)).1) (by rfl) ?_
      refine z_al0 (pc' := 59) 32 rfl rfl ?_
      refine z_getf (pc' := 62) 33 rfl rfl f_Pl_45_7 (by first | (rw [pc5_o (by decide)]; first | exact pob_56 | exact pob_57 | exact pob_58 | exact pob_59 | (rw [pob_o (by decide)]; first | assumption | exact hco.1)) | exact (pc5_is (by omega)).1) (by rfl) ?_
      refine z_te (show _ = nI K from s0) ?_
      refine z_aald (pc' := 63) 34 rfl rfl (by first | (rw [pc5_o (by decide)]; first | exact pob_56 | exact pob_57 | exact pob_58 | exact pob_59 | (rw [pob_o (by decide)]; first | assumption | exact hco.1)) | exact (pc5_is (by omega)).1) (by omega) (by decide) (by exact hbh _ (by omega)) ?_
      refine z_al0 (pc' := 64) 35 rfl rfl ?_
      refine z_getf (pc' := 67) 36 rfl rfl f_Pl_28_7 (by first | (rw [pc5_o (by decide)]; first | exact pob_56 | exact pob_57 | exact pob_58 | exact pob_59 | (rw [pob_o (by decide)]; first | assumption | exact hco.1)) | exact (pc5_is (by omega)).1) (by rfl) ?_
      refine z_callV1 (pc' := 70) 37 rfl rfl k_Pl_92 (by exact (pc5_is (by omega)).1) (c_pset5 (isCo_fr hco (fun i hi => pob_o (by omega))) hi (by omega) hp) (by decide) (Nat.le_refl _) (Nat.le_refl _) rfl rfl (Nat.le_of_ble_eq_true rfl) ?_
      rw [hps]
      refine z_is3 rfl rfl (pc' := 71) 38 rfl rfl ?_
      refine z_al0 (pc' := 72) 39 rfl rfl ?_
      refine z_dup rfl (pc' := 73) 40 rfl rfl ?_
      refine z_getf (pc' := 76) 41 rfl rfl f_Pl_65_7 (by first | (rw [pc5_o (by decide)]; first | exact pob_56 | exact pob_57 | exact pob_58 | exact pob_59 | (rw [pob_o (by decide)]; first | assumption | exact hco.1)) | exact (pc5_is (by omega)).1) (by rfl) ?_
      refine z_te (show _ = nI σ.2.2 from s5) ?_
      refine z_il3 (pc' := 77) 42 rfl rfl ?_
      refine z_ior (pc' := 78) 43 rfl rfl ?_
      rw [nb_or]
      refine z_putf (pc' := 81) 44 rfl rfl f_Pl_65_7 (by first | (rw [pc5_o (by decide)]; first | exact pob_56 | exact pob_57 | exact pob_58 | exact pob_59 | (rw [pob_o (by decide)]; first | assumption | exact hco.1)) | exact (pc5_is (by omega)).1) rfl rfl (by rfl) (by rfl) ?_
      dsimp only [List.set]
      rw [obP_5, pc5_z (by decide), pob_s56]
      refine z_al0 (pc' := 82) 45 rfl rfl ?_
      refine z_getf (pc' := 85) 46 rfl rfl f_Pl_56_7 (by first | (rw [pc5_o (by decide)]; first | exact pob_56 | exact pob_57 | exact pob_58 | exact pob_59 | (rw [pob_o (by decide)]; first | assumption | exact hco.1)) | exact (pc5_is (by omega)).1) (by rfl) ?_
      refine z_te (show _ = set from s10) ?_
      refine z_il3 (pc' := 86) 47 rfl rfl ?_
      refine z_iconst (v := (-1)) (by decide) (pc' := 87) 48 rfl rfl ?_
      refine z_ixor (pc' := 88) 49 rfl rfl ?_
      refine z_iand (pc' := 89) 50 rfl rfl ?_
      first | refine z_if_ne (pc' := 92) 51 rfl rfl (tgt := 105) rfl (fun h89 => ?_) (fun h89 => ?_)
      · exact z_return 59 rfl rfl rfl rfl (by refine ⟨rfl, _, _, rfl, ?_, rfl, rfl⟩; unfold wgh; rw [show bsS w p σ.1 = σ.1 from by rw [bsS, if_neg (by have := (le_hd (a := w) (M := σ.1.1) (by omega) (by omega)).mp h5; omega), if_neg (fun z => h42 ((hdI_eq (by omega) (by omega)).mpr z.symm))], show fwS set ps h σ.2.1 = σ.2.1 from if_neg (fun z => h89 z.1)]; exact ⟨s0, s10, s1, rfl, s4, rfl, s7, s8, s9⟩)
      · refine z_il2 (pc' := 93) 52 rfl rfl ?_
        refine z_al0 (pc' := 94) 53 rfl rfl ?_
        refine z_getf (pc' := 97) 54 rfl rfl f_Pl_62_7 (by first | (rw [pc5_o (by decide)]; first | exact pob_56 | exact pob_57 | exact pob_58 | exact pob_59 | (rw [pob_o (by decide)]; first | assumption | exact hco.1)) | exact (pc5_is (by omega)).1) (by rfl) ?_
        refine z_te (show _ = nI σ.2.1 from s4) ?_
        first | refine z_icmp_geN (pc' := 100) 55 rfl rfl (tgt := 105) rfl (by omega) (by omega) (fun h97 => ?_) (fun h97 => ?_) | refine z_icmp_ge (pc' := 100) 55 rfl rfl (tgt := 105) rfl (fun h97 => ?_) (fun h97 => ?_)
        · exact z_return 59 rfl rfl rfl rfl (by refine ⟨rfl, _, _, rfl, ?_, rfl, rfl⟩; unfold wgh; rw [show bsS w p σ.1 = σ.1 from by rw [bsS, if_neg (by have := (le_hd (a := w) (M := σ.1.1) (by omega) (by omega)).mp h5; omega), if_neg (fun z => h42 ((hdI_eq (by omega) (by omega)).mpr z.symm))], show fwS set ps h σ.2.1 = σ.2.1 from if_neg (by omega)]; exact ⟨s0, s10, s1, rfl, s4, rfl, s7, s8, s9⟩)
        · refine z_al0 (pc' := 101) 56 rfl rfl ?_
          refine z_il2 (pc' := 102) 57 rfl rfl ?_
          refine z_putf (pc' := 105) 58 rfl rfl f_Pl_62_7 (by first | (rw [pc5_o (by decide)]; first | exact pob_56 | exact pob_57 | exact pob_58 | exact pob_59 | (rw [pob_o (by decide)]; first | assumption | exact hco.1)) | exact (pc5_is (by omega)).1) rfl rfl (by rfl) (by rfl) ?_
          dsimp only [List.set]
          rw [obP_4, pc5_z (by decide), pob_s56]
          exact z_return 59 rfl rfl rfl rfl (by refine ⟨rfl, _, _, rfl, ?_, rfl, rfl⟩; unfold wgh; rw [show bsS w p σ.1 = σ.1 from by rw [bsS, if_neg (by have := (le_hd (a := w) (M := σ.1.1) (by omega) (by omega)).mp h5; omega), if_neg (fun z => h42 ((hdI_eq (by omega) (by omega)).mpr z.symm))], show fwS set ps h σ.2.1 = h from if_pos ⟨h89, h97⟩]; exact ⟨s0, s10, s1, rfl, rfl, rfl, s7, s8, by show h ≤ 5; omega⟩)
    · refine z_iconst (v := nI 1) (by decide) (pc' := 46) 25 rfl rfl ?_
      refine z_goto 26 rfl (tgt := 50) rfl ?_
      first | refine z_iaddN (pc' := 51) 28 rfl rfl ?_ | refine z_iadd (pc' := 51) 28 rfl rfl ?_
      
      refine z_putf (pc' := 54) 29 rfl rfl f_Pl_83_7 (by first | (rw [pc5_o (by decide)]; first | exact pob_56 | exact pob_57 | exact pob_58 | exact pob_59 | (rw [pob_o (by decide)]; first | assumption | exact hco.1)) | exact (pc5_is (by omega)).1) rfl rfl (by rfl) (by rfl) ?_
      dsimp only [List.set]
      rw [obP_2, pc5_z (by decide), pob_s56]
      refine z_al0 (pc' := 55) 30 rfl rfl ?_
      refine z_getf (pc' := 58) 31 rfl rfl f_Pl_23_7 (by first | (rw [pc5_o (by decide)]; first | exact pob_56 | exact pob_57 | exact pob_58 | exact pob_59 | (rw [pob_o (by decide)]; first | assumption | exact hco.1)) | exact (pc5_is (by omega)).1) (by rfl) ?_
      refine z_al0 (pc' := 59) 32 rfl rfl ?_
      refine z_getf (pc' := 62) 33 rfl rfl f_Pl_45_7 (by first | (rw [pc5_o (by decide)]; first | exact pob_56 | exact pob_57 | exact pob_58 | exact pob_59 | (rw [pob_o (by decide)]; first | assumption | exact hco.1)) | exact (pc5_is (by omega)).1) (by rfl) ?_
      refine z_te (show _ = nI K from s0) ?_
      refine z_aald (pc' := 63) 34 rfl rfl (by first | (rw [pc5_o (by decide)]; first | exact pob_56 | exact pob_57 | exact pob_58 | exact pob_59 | (rw [pob_o (by decide)]; first | assumption | exact hco.1)) | exact (pc5_is (by omega)).1) (by omega) (by decide) (by exact hbh _ (by omega)) ?_
      refine z_al0 (pc' := 64) 35 rfl rfl ?_
      refine z_getf (pc' := 67) 36 rfl rfl f_Pl_28_7 (by first | (rw [pc5_o (by decide)]; first | exact pob_56 | exact pob_57 | exact pob_58 | exact pob_59 | (rw [pob_o (by decide)]; first | assumption | exact hco.1)) | exact (pc5_is (by omega)).1) (by rfl) ?_
      refine z_callV1 (pc' := 70) 37 rfl rfl k_Pl_92 (by exact (pc5_is (by omega)).1) (c_pset5 (isCo_fr hco (fun i hi => pob_o (by omega))) hi (by omega) hp) (by decide) (Nat.le_refl _) (Nat.le_refl _) rfl rfl (Nat.le_of_ble_eq_true rfl) ?_
      rw [hps]
      refine z_is3 rfl rfl (pc' := 71) 38 rfl rfl ?_
      refine z_al0 (pc' := 72) 39 rfl rfl ?_
      refine z_dup rfl (pc' := 73) 40 rfl rfl ?_
      refine z_getf (pc' := 76) 41 rfl rfl f_Pl_65_7 (by first | (rw [pc5_o (by decide)]; first | exact pob_56 | exact pob_57 | exact pob_58 | exact pob_59 | (rw [pob_o (by decide)]; first | assumption | exact hco.1)) | exact (pc5_is (by omega)).1) (by rfl) ?_
      refine z_te (show _ = nI σ.2.2 from s5) ?_
      refine z_il3 (pc' := 77) 42 rfl rfl ?_
      refine z_ior (pc' := 78) 43 rfl rfl ?_
      rw [nb_or]
      refine z_putf (pc' := 81) 44 rfl rfl f_Pl_65_7 (by first | (rw [pc5_o (by decide)]; first | exact pob_56 | exact pob_57 | exact pob_58 | exact pob_59 | (rw [pob_o (by decide)]; first | assumption | exact hco.1)) | exact (pc5_is (by omega)).1) rfl rfl (by rfl) (by rfl) ?_
      dsimp only [List.set]
      rw [obP_5, pc5_z (by decide), pob_s56]
      refine z_al0 (pc' := 82) 45 rfl rfl ?_
      refine z_getf (pc' := 85) 46 rfl rfl f_Pl_56_7 (by first | (rw [pc5_o (by decide)]; first | exact pob_56 | exact pob_57 | exact pob_58 | exact pob_59 | (rw [pob_o (by decide)]; first | assumption | exact hco.1)) | exact (pc5_is (by omega)).1) (by rfl) ?_
      refine z_te (show _ = set from s10) ?_
      refine z_il3 (pc' := 86) 47 rfl rfl ?_
      refine z_iconst (v := (-1)) (by decide) (pc' := 87) 48 rfl rfl ?_
      refine z_ixor (pc' := 88) 49 rfl rfl ?_
      refine z_iand (pc' := 89) 50 rfl rfl ?_
      first | refine z_if_ne (pc' := 92) 51 rfl rfl (tgt := 105) rfl (fun h89 => ?_) (fun h89 => ?_)
      · exact z_return 59 rfl rfl rfl rfl (by refine ⟨rfl, _, _, rfl, ?_, rfl, rfl⟩; unfold wgh; rw [show bsS w p σ.1 = (σ.1.1, σ.1.2.1 + nI 1, σ.1.2.2) from by rw [bsS, if_neg (by have := (le_hd (a := w) (M := σ.1.1) (by omega) (by omega)).mp h5; omega), if_pos ((hdI_eq (by omega) (by omega)).mp h42).symm], show fwS set ps h σ.2.1 = σ.2.1 from if_neg (fun z => h89 z.1)]; exact ⟨s0, s10, s1, rfl, s4, rfl, s7, s8, s9⟩)
      · refine z_il2 (pc' := 93) 52 rfl rfl ?_
        refine z_al0 (pc' := 94) 53 rfl rfl ?_
        refine z_getf (pc' := 97) 54 rfl rfl f_Pl_62_7 (by first | (rw [pc5_o (by decide)]; first | exact pob_56 | exact pob_57 | exact pob_58 | exact pob_59 | (rw [pob_o (by decide)]; first | assumption | exact hco.1)) | exact (pc5_is (by omega)).1) (by rfl) ?_
        refine z_te (show _ = nI σ.2.1 from s4) ?_
        first | refine z_icmp_geN (pc' := 100) 55 rfl rfl (tgt := 105) rfl (by omega) (by omega) (fun h97 => ?_) (fun h97 => ?_) | refine z_icmp_ge (pc' := 100) 55 rfl rfl (tgt := 105) rfl (fun h97 => ?_) (fun h97 => ?_)
        · exact z_return 59 rfl rfl rfl rfl (by refine ⟨rfl, _, _, rfl, ?_, rfl, rfl⟩; unfold wgh; rw [show bsS w p σ.1 = (σ.1.1, σ.1.2.1 + nI 1, σ.1.2.2) from by rw [bsS, if_neg (by have := (le_hd (a := w) (M := σ.1.1) (by omega) (by omega)).mp h5; omega), if_pos ((hdI_eq (by omega) (by omega)).mp h42).symm], show fwS set ps h σ.2.1 = σ.2.1 from if_neg (by omega)]; exact ⟨s0, s10, s1, rfl, s4, rfl, s7, s8, s9⟩)
        · refine z_al0 (pc' := 101) 56 rfl rfl ?_
          refine z_il2 (pc' := 102) 57 rfl rfl ?_
          refine z_putf (pc' := 105) 58 rfl rfl f_Pl_62_7 (by first | (rw [pc5_o (by decide)]; first | exact pob_56 | exact pob_57 | exact pob_58 | exact pob_59 | (rw [pob_o (by decide)]; first | assumption | exact hco.1)) | exact (pc5_is (by omega)).1) rfl rfl (by rfl) (by rfl) ?_
          dsimp only [List.set]
          rw [obP_4, pc5_z (by decide), pob_s56]
          exact z_return 59 rfl rfl rfl rfl (by refine ⟨rfl, _, _, rfl, ?_, rfl, rfl⟩; unfold wgh; rw [show bsS w p σ.1 = (σ.1.1, σ.1.2.1 + nI 1, σ.1.2.2) from by rw [bsS, if_neg (by have := (le_hd (a := w) (M := σ.1.1) (by omega) (by omega)).mp h5; omega), if_pos ((hdI_eq (by omega) (by omega)).mp h42).symm], show fwS set ps h σ.2.1 = h from if_pos ⟨h89, h97⟩]; exact ⟨s0, s10, s1, rfl, rfl, rfl, s7, s8, by show h ≤ 5; omega⟩)
  · refine z_al0 (pc' := 9) 4 rfl rfl ?_
    refine z_il1 (pc' := 10) 5 rfl rfl ?_
    refine z_putf (pc' := 13) 6 rfl rfl f_Pl_59_7 (by first | (rw [pc5_o (by decide)]; first | exact pob_56 | exact pob_57 | exact pob_58 | exact pob_59 | (rw [pob_o (by decide)]; first | assumption | exact hco.1)) | exact (pc5_is (by omega)).1) rfl rfl (by rfl) (by rfl) ?_
    dsimp only [List.set]
    rw [obP_1, pc5_z (by decide), pob_s56]
    refine z_al0 (pc' := 14) 7 rfl rfl ?_
    refine z_iconst (v := nI 0) (by decide) (pc' := 15) 8 rfl rfl ?_
    refine z_putf (pc' := 18) 9 rfl rfl f_Pl_83_7 (by first | (rw [pc5_o (by decide)]; first | exact pob_56 | exact pob_57 | exact pob_58 | exact pob_59 | (rw [pob_o (by decide)]; first | assumption | exact hco.1)) | exact (pc5_is (by omega)).1) rfl rfl (by rfl) (by rfl) ?_
    dsimp only [List.set]
    rw [obP_2, pc5_z (by decide), pob_s56]
    refine z_al0 (pc' := 19) 10 rfl rfl ?_
    refine z_getf (pc' := 22) 11 rfl rfl f_Pl_18_7 (by first | (rw [pc5_o (by decide)]; first | exact pob_56 | exact pob_57 | exact pob_58 | exact pob_59 | (rw [pob_o (by decide)]; first | assumption | exact hco.1)) | exact (pc5_is (by omega)).1) (by rfl) ?_
    refine z_iconst (v := nI 0) (by decide) (pc' := 23) 12 rfl rfl ?_
    refine z_al0 (pc' := 24) 13 rfl rfl ?_
    refine z_getf (pc' := 27) 14 rfl rfl f_Pl_9_7 (by first | (rw [pc5_o (by decide)]; first | exact pob_56 | exact pob_57 | exact pob_58 | exact pob_59 | (rw [pob_o (by decide)]; first | assumption | exact hco.1)) | exact (pc5_is (by omega)).1) (by rfl) ?_
    refine z_iconst (v := nI 0) (by decide) (pc' := 28) 15 rfl rfl ?_
    refine z_iconst (v := nI 4) (by decide) (pc' := 29) 16 rfl rfl ?_
    refine z_copy (pc' := 32) 17 rfl rfl (by decide) ky_Pl_86 ky_nat ky_sta ky_ini (by first | (rw [pc5_o (by decide)]; first | exact pob_56 | exact pob_57 | exact pob_58 | exact pob_59 | (rw [pob_o (by decide)]; first | assumption | exact hco.1)) | exact (pc5_is (by omega)).1) (by first | (rw [pc5_o (by decide)]; first | exact pob_56 | exact pob_57 | exact pob_58 | exact pob_59 | (rw [pob_o (by decide)]; first | assumption | exact hco.1)) | exact (pc5_is (by omega)).1) (by decide) (by decide) (by omega) (by omega) (Nat.le_of_ble_eq_true rfl) ?_
    refine z_ext (a := 57) (N := 4) ac zu_s (fun j hj => sb_cpy0 hj) ?_
    rw [zu_zu, pc5_z (by decide), pob_s57]
    refine z_al0 (pc' := 33) 18 rfl rfl ?_
    refine z_dup rfl (pc' := 34) 19 rfl rfl ?_
    refine z_getf (pc' := 37) 20 rfl rfl f_Pl_83_7 (by first | (rw [pc5_o (by decide)]; first | exact pob_56 | exact pob_57 | exact pob_58 | exact pob_59 | (rw [pob_o (by decide)]; first | assumption | exact hco.1)) | exact (pc5_is (by omega)).1) (by rfl) ?_
    rw [show (un (un f 1 (nI w)) 2 (nI 0)) 2 = nI 0 from rfl]
    refine z_il1 (pc' := 38) 21 rfl rfl ?_
    refine z_al0 (pc' := 39) 22 rfl rfl ?_
    refine z_getf (pc' := 42) 23 rfl rfl f_Pl_59_7 (by first | (rw [pc5_o (by decide)]; first | exact pob_56 | exact pob_57 | exact pob_58 | exact pob_59 | (rw [pob_o (by decide)]; first | assumption | exact hco.1)) | exact (pc5_is (by omega)).1) (by rfl) ?_
    rw [show (un (un f 1 (nI w)) 2 (nI 0)) 1 = nI w from rfl]
    refine z_icmp_ne_f (pc' := 45) 24 rfl rfl (tgt := 49) rfl rfl ?_
    refine z_iconst (v := nI 1) (by decide) (pc' := 46) 25 rfl rfl ?_
    refine z_goto 26 rfl (tgt := 50) rfl ?_
    first | refine z_iaddN (pc' := 51) 28 rfl rfl ?_ | refine z_iadd (pc' := 51) 28 rfl rfl ?_
    
    refine z_putf (pc' := 54) 29 rfl rfl f_Pl_83_7 (by first | (rw [pc5_o (by decide)]; first | exact pob_56 | exact pob_57 | exact pob_58 | exact pob_59 | (rw [pob_o (by decide)]; first | assumption | exact hco.1)) | exact (pc5_is (by omega)).1) rfl rfl (by rfl) (by rfl) ?_
    dsimp only [List.set]
    rw [obP_2, pc5_z (by decide), pob_s56]
    refine z_al0 (pc' := 55) 30 rfl rfl ?_
    refine z_getf (pc' := 58) 31 rfl rfl f_Pl_23_7 (by first | (rw [pc5_o (by decide)]; first | exact pob_56 | exact pob_57 | exact pob_58 | exact pob_59 | (rw [pob_o (by decide)]; first | assumption | exact hco.1)) | exact (pc5_is (by omega)).1) (by rfl) ?_
    refine z_al0 (pc' := 59) 32 rfl rfl ?_
    refine z_getf (pc' := 62) 33 rfl rfl f_Pl_45_7 (by first | (rw [pc5_o (by decide)]; first | exact pob_56 | exact pob_57 | exact pob_58 | exact pob_59 | (rw [pob_o (by decide)]; first | assumption | exact hco.1)) | exact (pc5_is (by omega)).1) (by rfl) ?_
    refine z_te (show _ = nI K from s0) ?_
    refine z_aald (pc' := 63) 34 rfl rfl (by first | (rw [pc5_o (by decide)]; first | exact pob_56 | exact pob_57 | exact pob_58 | exact pob_59 | (rw [pob_o (by decide)]; first | assumption | exact hco.1)) | exact (pc5_is (by omega)).1) (by omega) (by decide) (by exact hbh _ (by omega)) ?_
    refine z_al0 (pc' := 64) 35 rfl rfl ?_
    refine z_getf (pc' := 67) 36 rfl rfl f_Pl_28_7 (by first | (rw [pc5_o (by decide)]; first | exact pob_56 | exact pob_57 | exact pob_58 | exact pob_59 | (rw [pob_o (by decide)]; first | assumption | exact hco.1)) | exact (pc5_is (by omega)).1) (by rfl) ?_
    refine z_callV1 (pc' := 70) 37 rfl rfl k_Pl_92 (by exact (pc5_is (by omega)).1) (c_pset5 (isCo_fr hco (fun i hi => pob_o (by omega))) hi (by omega) hp) (by decide) (Nat.le_refl _) (Nat.le_refl _) rfl rfl (Nat.le_of_ble_eq_true rfl) ?_
    rw [hps]
    refine z_is3 rfl rfl (pc' := 71) 38 rfl rfl ?_
    refine z_al0 (pc' := 72) 39 rfl rfl ?_
    refine z_dup rfl (pc' := 73) 40 rfl rfl ?_
    refine z_getf (pc' := 76) 41 rfl rfl f_Pl_65_7 (by first | (rw [pc5_o (by decide)]; first | exact pob_56 | exact pob_57 | exact pob_58 | exact pob_59 | (rw [pob_o (by decide)]; first | assumption | exact hco.1)) | exact (pc5_is (by omega)).1) (by rfl) ?_
    refine z_te (show _ = nI σ.2.2 from s5) ?_
    refine z_il3 (pc' := 77) 42 rfl rfl ?_
    refine z_ior (pc' := 78) 43 rfl rfl ?_
    rw [nb_or]
    refine z_putf (pc' := 81) 44 rfl rfl f_Pl_65_7 (by first | (rw [pc5_o (by decide)]; first | exact pob_56 | exact pob_57 | exact pob_58 | exact pob_59 | (rw [pob_o (by decide)]; first | assumption | exact hco.1)) | exact (pc5_is (by omega)).1) rfl rfl (by rfl) (by rfl) ?_
    dsimp only [List.set]
    rw [obP_5, pc5_z (by decide), pob_s56]
    refine z_al0 (pc' := 82) 45 rfl rfl ?_
    refine z_getf (pc' := 85) 46 rfl rfl f_Pl_56_7 (by first | (rw [pc5_o (by decide)]; first | exact pob_56 | exact pob_57 | exact pob_58 | exact pob_59 | (rw [pob_o (by decide)]; first | assumption | exact hco.1)) | exact (pc5_is (by omega)).1) (by rfl) ?_
    refine z_te (show _ = set from s10) ?_
    refine z_il3 (pc' := 86) 47 rfl rfl ?_
    refine z_iconst (v := (-1)) (by decide) (pc' := 87) 48 rfl rfl ?_
    refine z_ixor (pc' := 88) 49 rfl rfl ?_
    refine z_iand (pc' := 89) 50 rfl rfl ?_
    first | refine z_if_ne (pc' := 92) 51 rfl rfl (tgt := 105) rfl (fun h89 => ?_) (fun h89 => ?_)
    · exact z_return 59 rfl rfl rfl rfl (by refine ⟨rfl, _, _, rfl, ?_, rfl, rfl⟩; unfold wgh; rw [show bsS w p σ.1 = (w + 1, nI 1, p) from if_pos (by have q9 : ¬ w + 1 ≤ σ.1.1 := fun z => h5 ((le_hd (by omega) (by omega)).mpr z); omega), show fwS set ps h σ.2.1 = σ.2.1 from if_neg (fun z => h89 z.1)]; exact ⟨s0, s10, (hdI_s _).symm, rfl, s4, rfl, fun _ i hi => hac i hi, by show w + 1 ≤ 1000; omega, s9⟩)
    · refine z_il2 (pc' := 93) 52 rfl rfl ?_
      refine z_al0 (pc' := 94) 53 rfl rfl ?_
      refine z_getf (pc' := 97) 54 rfl rfl f_Pl_62_7 (by first | (rw [pc5_o (by decide)]; first | exact pob_56 | exact pob_57 | exact pob_58 | exact pob_59 | (rw [pob_o (by decide)]; first | assumption | exact hco.1)) | exact (pc5_is (by omega)).1) (by rfl) ?_
      refine z_te (show _ = nI σ.2.1 from s4) ?_
      first | refine z_icmp_geN (pc' := 100) 55 rfl rfl (tgt := 105) rfl (by omega) (by omega) (fun h97 => ?_) (fun h97 => ?_) | refine z_icmp_ge (pc' := 100) 55 rfl rfl (tgt := 105) rfl (fun h97 => ?_) (fun h97 => ?_)
      · exact z_return 59 rfl rfl rfl rfl (by refine ⟨rfl, _, _, rfl, ?_, rfl, rfl⟩; unfold wgh; rw [show bsS w p σ.1 = (w + 1, nI 1, p) from if_pos (by have q9 : ¬ w + 1 ≤ σ.1.1 := fun z => h5 ((le_hd (by omega) (by omega)).mpr z); omega), show fwS set ps h σ.2.1 = σ.2.1 from if_neg (by omega)]; exact ⟨s0, s10, (hdI_s _).symm, rfl, s4, rfl, fun _ i hi => hac i hi, by show w + 1 ≤ 1000; omega, s9⟩)
      · refine z_al0 (pc' := 101) 56 rfl rfl ?_
        refine z_il2 (pc' := 102) 57 rfl rfl ?_
        refine z_putf (pc' := 105) 58 rfl rfl f_Pl_62_7 (by first | (rw [pc5_o (by decide)]; first | exact pob_56 | exact pob_57 | exact pob_58 | exact pob_59 | (rw [pob_o (by decide)]; first | assumption | exact hco.1)) | exact (pc5_is (by omega)).1) rfl rfl (by rfl) (by rfl) ?_
        dsimp only [List.set]
        rw [obP_4, pc5_z (by decide), pob_s56]
        exact z_return 59 rfl rfl rfl rfl (by refine ⟨rfl, _, _, rfl, ?_, rfl, rfl⟩; unfold wgh; rw [show bsS w p σ.1 = (w + 1, nI 1, p) from if_pos (by have q9 : ¬ w + 1 ≤ σ.1.1 := fun z => h5 ((le_hd (by omega) (by omega)).mpr z); omega), show fwS set ps h σ.2.1 = h from if_pos ⟨h89, h97⟩]; exact ⟨s0, s10, (hdI_s _).symm, rfl, rfl, rfl, fun _ i hi => hac i hi, by show w + 1 ≤ 1000; omega, by show h ≤ 5; omega⟩)
