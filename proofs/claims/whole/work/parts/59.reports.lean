/-! ===== what the reports leave ===== -/
def iRp (S : Nat → Nat → Nat) : Prop := ∀ r, r < S 0 2 → S 8 (4 * r) ≤ 5 ∧ S 8 (4 * r + 1) ≤ 7
def gR (S : Nat → Nat → Nat) (pt fc r : Nat) : Nat := gn (S 8 (4 * r)) fc (tn pt (S 8 (4 * r + 1))) 3
def okR (S : Nat → Nat → Nat) (pt fc : Nat) (but : Int32) (r : Nat) : Prop := nI r = but ∨ (S 8 (4 * r + 2) ≤ gR S pt fc r ∧ gR S pt fc r ≤ S 8 (4 * r + 3))
def okB (S : Nat → Nat → Nat) (pt fc : Nat) (but : Int32) (r : Nat) : Bool := decide (nI r = but) || (decide (S 8 (4 * r + 2) ≤ gR S pt fc r) && decide (gR S pt fc r ≤ S 8 (4 * r + 3)))
theorem okB_t {S : Nat → Nat → Nat} {pt fc r : Nat} {but : Int32} : okB S pt fc but r = true ↔ okR S pt fc but r := by simp [okB, okR]
theorem okB_f {S : Nat → Nat → Nat} {pt fc r : Nat} {but : Int32} (h : ¬ okR S pt fc but r) : okB S pt fc but r = false := by
  cases e : okB S pt fc but r with
  | false => rfl
  | true => exact absurd (okB_t.mp e) h
def fiA (S : Nat → Nat → Nat) (pt fc : Nat) (but : Int32) : Nat → Nat → Bool
  | 0, _ => true
  | j + 1, r => okB S pt fc but r && fiA S pt fc but j (r + 1)
def fitV (S : Nat → Nat → Nat) (but : Int32) (v : Nat) : Bool := decide (0 < v % 10) && fiA S (v / 10) (v % 10) but (S 0 2) 0
def cnA (F : Nat → Bool) : Nat → Nat → Nat → Nat
  | 0, _, a => a
  | j + 1, v, a => cnA F j (v + 1) (a + (if F v = true then 1 else 0))
def fsA (F : Nat → Bool) : Nat → Nat → Nat
  | 0, v => v
  | j + 1, v => if F v = true then v else fsA F j (v + 1)
theorem cnA_add {F : Nat → Bool} : ∀ i j v a, cnA F (i + j) v a = cnA F j (v + i) (cnA F i v a)
  | 0, j, v, a => by rw [Nat.zero_add]; rfl
  | i + 1, j, v, a => by
    rw [show i + 1 + j = (i + j) + 1 by omega]
    show cnA F (i + j) (v + 1) _ = cnA F j (v + (i + 1)) (cnA F i (v + 1) _)
    rw [cnA_add i j, show v + 1 + i = v + (i + 1) by omega]
theorem cnA_le {F : Nat → Bool} : ∀ j v a, cnA F j v a ≤ a + j ∧ a ≤ cnA F j v a
  | 0, v, a => ⟨Nat.le_refl _, Nat.le_refl _⟩
  | j + 1, v, a => by
    have := cnA_le (F := F) j (v + 1) (a + (if F v = true then 1 else 0))
    unfold cnA
    by_cases e : F v = true
    · rw [if_pos e] at this ⊢; omega
    · rw [if_neg e] at this ⊢; omega
theorem cn_fs {F : Nat → Bool} : ∀ j v a, (cnA F j v a = a ↔ fsA F j v = v + j) ∧ fsA F j v ≤ v + j ∧ v ≤ fsA F j v
  | 0, v, a => ⟨⟨fun _ => rfl, fun _ => rfl⟩, Nat.le_refl _, Nat.le_refl _⟩
  | j + 1, v, a => by
    have h := cn_fs (F := F) j (v + 1) (a + (if F v = true then 1 else 0))
    have k := cnA_le (F := F) j (v + 1) (a + (if F v = true then 1 else 0))
    unfold cnA fsA
    by_cases e : F v = true
    · rw [if_pos e] at h k ⊢
      rw [if_pos e]
      exact ⟨⟨fun z => by omega, fun z => by omega⟩, by omega, by omega⟩
    · rw [if_neg e] at h k ⊢
      rw [if_neg e]
      rw [Nat.add_zero] at h ⊢
      exact ⟨⟨fun z => by have := h.1.mp z; omega, fun z => h.1.mpr (by omega)⟩, by omega, by omega⟩
abbrev ffS (S : Nat → Nat → Nat) (but : Int32) : Nat := fsA (fitV S but) 80 0
def lrA (S : Nat → Nat → Nat) : Nat → Nat → Int32
  | 0, _ => -3
  | j + 1, r => if ffS S (nI r) = 80 then lrA S j (r + 1) else nI r
def f_span : zκ → Int32 → Int32
  | (S, _, _, _, _, _, _, _), x => if nI 0 ≤ x ∧ x ≤ nI 2 then (if x = nI 0 then nI (cnA (fitV S (-1)) 80 0 0) else if ffS S (-1) = 80 then -3 else if x = nI 1 then nI (ffS S (-1) / 10) else nI (ffS S (-1) % 10)) else -1
def f_liar : zκ → Int32
  | (S, _, _, _, _, _, _, _) => if ffS S (-1) = 80 then lrA S (S 0 2) 0 else -3
theorem fitV_s {S : Nat → Nat → Nat} {but : Int32} {pt fc : Nat} (h : fc < 10) (h1 : 1 ≤ fc) : fitV S but (10 * pt + fc) = fiA S pt fc but (S 0 2) 0 := by
  unfold fitV
  rw [show (10 * pt + fc) % 10 = fc by omega, show (10 * pt + fc) / 10 = pt by omega, decide_eq_true (by omega : 0 < fc)]
  rfl
theorem fitV_0 {S : Nat → Nat → Nat} {but : Int32} {pt : Nat} : fitV S but (10 * pt) = false := by
  unfold fitV
  rw [decide_eq_false (by omega)]
  rfl
set_option maxHeartbeats 4000000 in
set_option maxRecDepth 100000 in
theorem l_Co_fits {G : zG} {n u : Nat} {μ : Nat → va_E} {S : Nat → Nat → Nat} {sc ch : Int32} (hco : isCo μ S sc ch) (hi : iS S) (hrp : iRp S) {pt fc : Nat} (hp : pt ≤ 7) (hf : fc ≤ 9) {but : Int32} : ∀ j r, r + j = S 0 2 → zW G 1 M_Co_fits 3 [.ref 5, .int (nI pt), .int (nI fc), .int but, .int (nI r), .retAddr 0, .retAddr 0] [] n u μ n u (zE (some (.int (zbo (fiA S pt fc but j r = true)))) μ)
  | 0, r, e => by
    have hi2 := hi.2.2.1
    have hco5 := hco.1
    have hco22 := hco.2.2.2.2.2.2.2.2
    refine z_il4 (pc' := 5) 2 rfl rfl ?_
    refine z_al0 (pc' := 6) 3 rfl rfl ?_
    refine z_getf (pc' := 9) 4 rfl rfl f_Co_82_3 (by assumption) (by rfl) ?_
    first | refine z_icmp_geN (pc' := 12) 5 rfl rfl (tgt := 93) rfl (by omega) (by omega) (fun h9 => ?_) (fun h9 => ?_) | refine z_icmp_ge (pc' := 12) 5 rfl rfl (tgt := 93) rfl (fun h9 => ?_) (fun h9 => ?_)
    · refine z_iconst (v := nI 1) (by decide) (pc' := 94) 55 rfl rfl ?_
      exact z_ireturn 56 rfl rfl (by first | rfl | exact zbo_nar) rfl rfl (by exact ⟨rfl, rfl⟩)
    · exfalso; omega
  | j + 1, r, e => by
    have hi2 := hi.2.2.1
    have hco5 := hco.1
    have hco22 := hco.2.2.2.2.2.2.2.2
    obtain ⟨hk5, hh7⟩ := hrp r (by omega)
    have b2 := (hi.2.2.2.2.2 (4 * r + 2)).2.2.2.2.2.2.2.1
    have b3 := (hi.2.2.2.2.2 (4 * r + 3)).2.2.2.2.2.2.2.1
    have bg := gn_le (k := S 8 (4 * r)) (f := fc) (t := tn pt (S 8 (4 * r + 1))) (m := 3) hf
    have bt := tn_le hp hh7
    refine z_il4 (pc' := 5) 2 rfl rfl ?_
    refine z_al0 (pc' := 6) 3 rfl rfl ?_
    refine z_getf (pc' := 9) 4 rfl rfl f_Co_82_3 (by assumption) (by rfl) ?_
    first | refine z_icmp_geN (pc' := 12) 5 rfl rfl (tgt := 93) rfl (by omega) (by omega) (fun h9 => ?_) (fun h9 => ?_) | refine z_icmp_ge (pc' := 12) 5 rfl rfl (tgt := 93) rfl (fun h9 => ?_) (fun h9 => ?_)
    · exfalso; omega
    · refine z_il1 (pc' := 13) 6 rfl rfl ?_
      refine z_al0 (pc' := 14) 7 rfl rfl ?_
      refine z_getf (pc' := 17) 8 rfl rfl f_Co_54_3 (by assumption) (by rfl) ?_
      refine z_iconst (v := nI 4) (by decide) (pc' := 18) 9 rfl rfl ?_
      refine z_il4 (pc' := 20) 10 rfl rfl ?_
      first | refine z_imulN (pc' := 21) 11 rfl rfl ?_ | refine z_imul (pc' := 21) 11 rfl rfl ?_
      refine z_iconst (v := nI 1) (by decide) (pc' := 22) 12 rfl rfl ?_
      first | refine z_iaddN (pc' := 23) 13 rfl rfl ?_ | refine z_iadd (pc' := 23) 13 rfl rfl ?_
      refine z_iald (pc' := 24) 14 rfl rfl (by assumption) (by omega) (by decide) ?_
      refine z_callS1 (pc' := 27) 15 rfl rfl k_Co_92 (c_Wb_turnBetween hp hh7) (by decide) (Nat.le_refl _) (Nat.le_refl _) rfl rfl (Nat.le_of_ble_eq_true rfl) ?_
      refine z_is5 rfl rfl (pc' := 29) 16 rfl rfl ?_
      refine z_al0 (pc' := 30) 17 rfl rfl ?_
      refine z_getf (pc' := 33) 18 rfl rfl f_Co_54_3 (by assumption) (by rfl) ?_
      refine z_iconst (v := nI 4) (by decide) (pc' := 34) 19 rfl rfl ?_
      refine z_il4 (pc' := 36) 20 rfl rfl ?_
      first | refine z_imulN (pc' := 37) 21 rfl rfl ?_ | refine z_imul (pc' := 37) 21 rfl rfl ?_
      refine z_iald (pc' := 38) 22 rfl rfl (by assumption) (by omega) (by decide) ?_
      refine z_il2 (pc' := 39) 23 rfl rfl ?_
      refine z_il5 (pc' := 41) 24 rfl rfl ?_
      refine z_iconst (v := nI 3) (by decide) (pc' := 42) 25 rfl rfl ?_
      refine z_callS1 (pc' := 45) 26 rfl rfl k_Co_96 (c_Wb_gainOf hk5 hf bt (by decide)) (by decide) (Nat.le_refl _) (Nat.le_refl _) rfl rfl (Nat.le_of_ble_eq_true rfl) ?_
      refine z_is6 rfl rfl (pc' := 47) 27 rfl rfl ?_
      refine z_il4 (pc' := 49) 28 rfl rfl ?_
      refine z_il3 (pc' := 50) 29 rfl rfl ?_
      first | refine z_icmp_eq (pc' := 53) 30 rfl rfl (tgt := 87) rfl (fun h50 => ?_) (fun h50 => ?_)
      · first | refine z_inc4N rfl rfl (pc' := 90) 53 rfl rfl ?_ | refine z_inc4 rfl rfl rfl (pc' := 90) 53 rfl rfl ?_
        refine z_goto 54 rfl (tgt := 3) rfl ?_
        refine z_less5 (z_less6 ?_)
        rw [show fiA S pt fc but (j + 1) r = fiA S pt fc but j (r + 1) by show (okB S pt fc but r && _) = _; rw [okB_t.mpr (Or.inl h50)]; rfl]
        exact l_Co_fits hco hi hrp hp hf j (r + 1) (by omega)
      · refine z_il6 (pc' := 55) 31 rfl rfl ?_
        refine z_al0 (pc' := 56) 32 rfl rfl ?_
        refine z_getf (pc' := 59) 33 rfl rfl f_Co_54_3 (by assumption) (by rfl) ?_
        refine z_iconst (v := nI 4) (by decide) (pc' := 60) 34 rfl rfl ?_
        refine z_il4 (pc' := 62) 35 rfl rfl ?_
        first | refine z_imulN (pc' := 63) 36 rfl rfl ?_ | refine z_imul (pc' := 63) 36 rfl rfl ?_
        refine z_iconst (v := nI 2) (by decide) (pc' := 64) 37 rfl rfl ?_
        first | refine z_iaddN (pc' := 65) 38 rfl rfl ?_ | refine z_iadd (pc' := 65) 38 rfl rfl ?_
        refine z_iald (pc' := 66) 39 rfl rfl (by assumption) (by omega) (by decide) ?_
        first | refine z_icmp_ltN (pc' := 69) 40 rfl rfl (tgt := 85) rfl (by omega) (by omega) (fun h66 => ?_) (fun h66 => ?_) | refine z_icmp_lt (pc' := 69) 40 rfl rfl (tgt := 85) rfl (fun h66 => ?_) (fun h66 => ?_)
        · refine z_iconst (v := nI 0) (by decide) (pc' := 86) 51 rfl rfl ?_
          exact z_ireturn 52 rfl rfl (by first | rfl | exact zbo_nar) rfl rfl (by refine ⟨?_, rfl⟩; rw [show fiA S pt fc but (j + 1) r = false by show (okB S pt fc but r && _) = _; rw [okB_f (fun z => z.elim (fun y => h50 y) (fun y => by unfold gR at y; omega))]; rfl]; rfl)
        · refine z_il6 (pc' := 71) 41 rfl rfl ?_
          refine z_al0 (pc' := 72) 42 rfl rfl ?_
          refine z_getf (pc' := 75) 43 rfl rfl f_Co_54_3 (by assumption) (by rfl) ?_
          refine z_iconst (v := nI 4) (by decide) (pc' := 76) 44 rfl rfl ?_
          refine z_il4 (pc' := 78) 45 rfl rfl ?_
          first | refine z_imulN (pc' := 79) 46 rfl rfl ?_ | refine z_imul (pc' := 79) 46 rfl rfl ?_
          refine z_iconst (v := nI 3) (by decide) (pc' := 80) 47 rfl rfl ?_
          first | refine z_iaddN (pc' := 81) 48 rfl rfl ?_ | refine z_iadd (pc' := 81) 48 rfl rfl ?_
          refine z_iald (pc' := 82) 49 rfl rfl (by assumption) (by omega) (by decide) ?_
          first | refine z_icmp_leN (pc' := 85) 50 rfl rfl (tgt := 87) rfl (by omega) (by omega) (fun h82 => ?_) (fun h82 => ?_) | refine z_icmp_le (pc' := 85) 50 rfl rfl (tgt := 87) rfl (fun h82 => ?_) (fun h82 => ?_)
          · first | refine z_inc4N rfl rfl (pc' := 90) 53 rfl rfl ?_ | refine z_inc4 rfl rfl rfl (pc' := 90) 53 rfl rfl ?_
            refine z_goto 54 rfl (tgt := 3) rfl ?_
            refine z_less5 (z_less6 ?_)
            rw [show fiA S pt fc but (j + 1) r = fiA S pt fc but j (r + 1) by show (okB S pt fc but r && _) = _; rw [okB_t.mpr (Or.inr ⟨by unfold gR; omega, by unfold gR; omega⟩)]; rfl]
            exact l_Co_fits hco hi hrp hp hf j (r + 1) (by omega)
          · refine z_iconst (v := nI 0) (by decide) (pc' := 86) 51 rfl rfl ?_
            exact z_ireturn 52 rfl rfl (by first | rfl | exact zbo_nar) rfl rfl (by refine ⟨?_, rfl⟩; rw [show fiA S pt fc but (j + 1) r = false by show (okB S pt fc but r && _) = _; rw [okB_f (fun z => z.elim (fun y => h50 y) (fun y => by unfold gR at y; omega))]; rfl]; rfl)
set_option maxHeartbeats 4000000 in
set_option maxRecDepth 100000 in
theorem c_Co_fits {G : zG} {n u : Nat} {μ : Nat → va_E} {S : Nat → Nat → Nat} {sc ch : Int32} (hco : isCo μ S sc ch) (hi : iS S) (hrp : iRp S) {pt fc : Nat} (hp : pt ≤ 7) (hf : fc ≤ 9) (but : Int32) : zMet G 1 M_Co_fits [.ref 5, .int (nI pt), .int (nI fc), .int but] n u μ n u (zE (some (.int (zbo (fiA S pt fc but (S 0 2) 0 = true)))) μ) := by
  refine z_start (lv := [.ref 5, .int (nI pt), .int (nI fc), .int but, .retAddr 0, .retAddr 0, .retAddr 0]) K_Co_fits rfl rfl (Nat.le_refl _) (Nat.le_refl _) (Nat.le_of_ble_eq_true rfl) rfl ?_
  refine z_iconst (v := nI 0) (by decide) (pc' := 1) 0 rfl rfl ?_
  refine z_is4 rfl rfl (pc' := 3) 1 rfl rfl ?_
  exact l_Co_fits hco hi hrp hp hf _ 0 (Nat.zero_add _)
set_option maxHeartbeats 4000000 in
set_option maxRecDepth 100000 in
theorem l_Co_fw1 {G : zG} {n u : Nat} {Φ : zP} {μ : Nat → va_E} {S : Nat → Nat → Nat} {sc ch : Int32} (hco : isCo μ S sc ch) (hi : iS S) (hrp : iRp S) {pt : Nat} (hp : pt ≤ 7) {but : Int32} : ∀ i fc a, fc + i = 10 → 1 ≤ fc → a ≤ 200 - i →
    (zW G 2 M_Co_fittingWinds 45 [.ref 5, .int but, .int (nI (cnA (fitV S but) i (10 * pt + fc) a)), .int (nI pt), .int (nI 10)] [] n u μ n u Φ) →
    zW G 2 M_Co_fittingWinds 13 [.ref 5, .int but, .int (nI a), .int (nI pt), .int (nI fc)] [] n u μ n u Φ
  | 0, fc, a, e, h1, ha, K => by
    obtain rfl : fc = 10 := by omega
    refine z_il4 (pc' := 15) 9 rfl rfl ?_
    refine z_bipush (v := nI 9) (by decide) (pc' := 17) 10 rfl rfl ?_
    first | refine z_icmp_gtN (pc' := 20) 11 rfl rfl (tgt := 45) rfl (by omega) (by omega) (fun h17 => ?_) (fun h17 => ?_) | refine z_icmp_gt (pc' := 20) 11 rfl rfl (tgt := 45) rfl (fun h17 => ?_) (fun h17 => ?_)
    · exact K
    · exfalso; omega
  | i + 1, fc, a, e, h1, ha, K => by
    have hco5 := hco.1
    refine z_il4 (pc' := 15) 9 rfl rfl ?_
    refine z_bipush (v := nI 9) (by decide) (pc' := 17) 10 rfl rfl ?_
    first | refine z_icmp_gtN (pc' := 20) 11 rfl rfl (tgt := 45) rfl (by omega) (by omega) (fun h17 => ?_) (fun h17 => ?_) | refine z_icmp_gt (pc' := 20) 11 rfl rfl (tgt := 45) rfl (fun h17 => ?_) (fun h17 => ?_)
    · exfalso; omega
    · refine z_il2 (pc' := 21) 12 rfl rfl ?_
      refine z_al0 (pc' := 22) 13 rfl rfl ?_
      refine z_il3 (pc' := 23) 14 rfl rfl ?_
      refine z_il4 (pc' := 25) 15 rfl rfl ?_
      refine z_il1 (pc' := 26) 16 rfl rfl ?_
      refine z_callV1 (pc' := 29) 17 rfl rfl k_Co_129 (by assumption) (c_Co_fits hco hi hrp hp (by omega) _) (by decide) (Nat.le_refl _) (Nat.le_refl _) rfl rfl (Nat.le_of_ble_eq_true rfl) ?_
      first | refine z_if_eqB (pc' := 32) 18 rfl rfl (tgt := 36) rfl (fun h29 => ?_) (fun h29 => ?_) | refine z_if_eqN (pc' := 32) 18 rfl rfl (tgt := 36) rfl (by omega) (fun h29 => ?_) (fun h29 => ?_) | refine z_if_eq (pc' := 32) 18 rfl rfl (tgt := 36) rfl (fun h29 => ?_) (fun h29 => ?_)
      · refine z_iconst (v := nI 0) (by decide) (pc' := 37) 21 rfl rfl ?_
        first | refine z_iaddN (pc' := 38) 22 rfl rfl ?_ | refine z_iadd (pc' := 38) 22 rfl rfl ?_
        refine z_is2 rfl rfl (pc' := 39) 23 rfl rfl ?_
        first | refine z_inc4N rfl rfl (pc' := 42) 24 rfl rfl ?_ | refine z_inc4 rfl rfl rfl (pc' := 42) 24 rfl rfl ?_
        refine z_goto 25 rfl (tgt := 13) rfl ?_
        rw [show cnA (fitV S but) (i + 1) (10 * pt + fc) a = cnA (fitV S but) i (10 * pt + (fc + 1)) (a + 0) by show cnA (fitV S but) i (10 * pt + fc + 1) (a + (if fitV S but (10 * pt + fc) = true then 1 else 0)) = _; rw [fitV_s (by omega) (by omega), if_neg h29]; rfl] at K
        exact l_Co_fw1 hco hi hrp hp i (fc + 1) _ (by omega) (by omega) (by omega) K
      · refine z_iconst (v := nI 1) (by decide) (pc' := 33) 19 rfl rfl ?_
        refine z_goto 20 rfl (tgt := 37) rfl ?_
        first | refine z_iaddN (pc' := 38) 22 rfl rfl ?_ | refine z_iadd (pc' := 38) 22 rfl rfl ?_
        refine z_is2 rfl rfl (pc' := 39) 23 rfl rfl ?_
        first | refine z_inc4N rfl rfl (pc' := 42) 24 rfl rfl ?_ | refine z_inc4 rfl rfl rfl (pc' := 42) 24 rfl rfl ?_
        refine z_goto 25 rfl (tgt := 13) rfl ?_
        rw [show cnA (fitV S but) (i + 1) (10 * pt + fc) a = cnA (fitV S but) i (10 * pt + (fc + 1)) (a + 1) by show cnA (fitV S but) i (10 * pt + fc + 1) (a + (if fitV S but (10 * pt + fc) = true then 1 else 0)) = _; rw [fitV_s (by omega) (by omega), if_pos h29]; rfl] at K
        exact l_Co_fw1 hco hi hrp hp i (fc + 1) _ (by omega) (by omega) (by omega) K
set_option maxHeartbeats 4000000 in
set_option maxRecDepth 100000 in
theorem l_Co_fw2 {G : zG} {n u : Nat} {μ : Nat → va_E} {S : Nat → Nat → Nat} {sc ch : Int32} (hco : isCo μ S sc ch) (hi : iS S) (hrp : iRp S) {but : Int32} : ∀ i pt a w, pt + i = 8 → a ≤ 10 * pt → zW G 2 M_Co_fittingWinds 4 [.ref 5, .int but, .int (nI a), .int (nI pt), w] [] n u μ n u (zE (some (.int (nI (cnA (fitV S but) (10 * i) (10 * pt) a)))) μ)
  | 0, pt, a, w, e, ha => by
    refine z_il3 (pc' := 5) 4 rfl rfl ?_
    refine z_bipush (v := nI 8) (by decide) (pc' := 7) 5 rfl rfl ?_
    first | refine z_icmp_geN (pc' := 10) 6 rfl rfl (tgt := 51) rfl (by omega) (by omega) (fun h7 => ?_) (fun h7 => ?_) | refine z_icmp_ge (pc' := 10) 6 rfl rfl (tgt := 51) rfl (fun h7 => ?_) (fun h7 => ?_)
    · refine z_il2 (pc' := 52) 28 rfl rfl ?_
      exact z_ireturn 29 rfl rfl (by first | rfl | exact zbo_nar) rfl rfl (by exact ⟨rfl, rfl⟩)
    · exfalso; omega
  | i + 1, pt, a, w, e, ha => by
    have h9 := cnA_le (F := fitV S but) 9 (10 * pt + 1) a
    refine z_il3 (pc' := 5) 4 rfl rfl ?_
    refine z_bipush (v := nI 8) (by decide) (pc' := 7) 5 rfl rfl ?_
    first | refine z_icmp_geN (pc' := 10) 6 rfl rfl (tgt := 51) rfl (by omega) (by omega) (fun h7 => ?_) (fun h7 => ?_) | refine z_icmp_ge (pc' := 10) 6 rfl rfl (tgt := 51) rfl (fun h7 => ?_) (fun h7 => ?_)
    · exfalso; omega
    · refine z_iconst (v := nI 1) (by decide) (pc' := 11) 7 rfl rfl ?_
      refine z_is4 rfl rfl (pc' := 13) 8 rfl rfl ?_
      refine l_Co_fw1 hco hi hrp (by omega) 9 1 _ (by omega) (by omega) (by omega) ?_
      rw [show cnA (fitV S but) (10 * (i + 1)) (10 * pt) a = cnA (fitV S but) (10 * i) (10 * (pt + 1)) (cnA (fitV S but) 9 (10 * pt + 1) a) by
        rw [show 10 * (i + 1) = (9 + 10 * i) + 1 by omega]
        show cnA (fitV S but) (9 + 10 * i) (10 * pt + 1) (a + (if fitV S but (10 * pt) = true then 1 else 0)) = _
        rw [fitV_0, if_neg (by decide), cnA_add, show 10 * pt + 1 + 9 = 10 * (pt + 1) by omega]
        rfl]
      first | refine z_inc3N rfl rfl (pc' := 48) 26 rfl rfl ?_ | refine z_inc3 rfl rfl rfl (pc' := 48) 26 rfl rfl ?_
      refine z_goto 27 rfl (tgt := 4) rfl ?_
      exact l_Co_fw2 hco hi hrp i (pt + 1) _ _ (by omega) (by omega)
set_option maxHeartbeats 4000000 in
set_option maxRecDepth 100000 in
theorem c_Co_fittingWinds {G : zG} {n u : Nat} {μ : Nat → va_E} {S : Nat → Nat → Nat} {sc ch : Int32} (hco : isCo μ S sc ch) (hi : iS S) (hrp : iRp S) (but : Int32) : zMet G 2 M_Co_fittingWinds [.ref 5, .int but] n u μ n u (zE (some (.int (nI (cnA (fitV S but) 80 0 0)))) μ) := by
  refine z_start (lv := [.ref 5, .int but, .retAddr 0, .retAddr 0, .retAddr 0]) K_Co_fittingWinds rfl rfl (Nat.le_refl _) (Nat.le_refl _) (Nat.le_of_ble_eq_true rfl) rfl ?_
  refine z_iconst (v := nI 0) (by decide) (pc' := 1) 0 rfl rfl ?_
  refine z_is2 rfl rfl (pc' := 2) 1 rfl rfl ?_
  refine z_iconst (v := nI 0) (by decide) (pc' := 3) 2 rfl rfl ?_
  refine z_is3 rfl rfl (pc' := 4) 3 rfl rfl ?_
  exact l_Co_fw2 hco hi hrp 8 0 0 _ (by omega) (by omega)
set_option maxHeartbeats 4000000 in
set_option maxRecDepth 100000 in
theorem l_Wb_span1 {G : zG} {n u : Nat} {Φ : zP} {μ : Nat → va_E} {S : Nat → Nat → Nat} {sc ch : Int32} (hco : isCo μ S sc ch) (hi : iS S) (hrp : iRp S) (hob : ∃ fs, μ 4 = .inr (11, .ref 5 :: fs)) {pt : Nat} (hp : pt ≤ 7) {x : Int32} (K1 : ∀ v, v < 80 → fsA (fitV S (-1)) (80 - 10 * pt) (10 * pt) = v → Φ (some (.int (if x = nI 1 then nI (v / 10) else nI (v % 10)))) μ) : ∀ i fc, fc + i = 10 → 1 ≤ fc → fsA (fitV S (-1)) (80 - 10 * pt) (10 * pt) = fsA (fitV S (-1)) (80 - (10 * pt + fc)) (10 * pt + fc) →
    (fsA (fitV S (-1)) (80 - 10 * pt) (10 * pt) = fsA (fitV S (-1)) (80 - (10 * pt + 10)) (10 * pt + 10) → zW G 2 M_Wb_span 70 [.ref 4, .int x, .int (nI pt), .int (nI 10)] [] n u μ n u Φ) →
    zW G 2 M_Wb_span 34 [.ref 4, .int x, .int (nI pt), .int (nI fc)] [] n u μ n u Φ
  | 0, fc, e, h1, hh, K => by
    obtain rfl : fc = 10 := by omega
    refine z_il3 (pc' := 35) 21 rfl rfl ?_
    refine z_bipush (v := nI 9) (by decide) (pc' := 37) 22 rfl rfl ?_
    first | refine z_icmp_gtN (pc' := 40) 23 rfl rfl (tgt := 70) rfl (by omega) (by omega) (fun h37 => ?_) (fun h37 => ?_) | refine z_icmp_gt (pc' := 40) 23 rfl rfl (tgt := 70) rfl (fun h37 => ?_) (fun h37 => ?_)
    · exact K hh
    · exfalso; omega
  | i + 1, fc, e, h1, hh, K => by
    have hco5 := hco.1
    obtain ⟨fs, h4⟩ := hob
    have hF : fitV S (-1) (10 * pt + fc) = fiA S pt fc (-1) (S 0 2) 0 := fitV_s (by omega) (by omega)
    have hu : fsA (fitV S (-1)) (80 - (10 * pt + fc)) (10 * pt + fc) = if fitV S (-1) (10 * pt + fc) = true then 10 * pt + fc else fsA (fitV S (-1)) (80 - (10 * pt + (fc + 1))) (10 * pt + (fc + 1)) := by
      rw [show 80 - (10 * pt + fc) = (80 - (10 * pt + (fc + 1))) + 1 by omega]
      rfl
    refine z_il3 (pc' := 35) 21 rfl rfl ?_
    refine z_bipush (v := nI 9) (by decide) (pc' := 37) 22 rfl rfl ?_
    first | refine z_icmp_gtN (pc' := 40) 23 rfl rfl (tgt := 70) rfl (by omega) (by omega) (fun h37 => ?_) (fun h37 => ?_) | refine z_icmp_gt (pc' := 40) 23 rfl rfl (tgt := 70) rfl (fun h37 => ?_) (fun h37 => ?_)
    · exfalso; omega
    · refine z_al0 (pc' := 41) 24 rfl rfl ?_
      refine z_getf (pc' := 44) 25 rfl rfl f_Wb_10_11 (by assumption) (by rfl) ?_
      refine z_il2 (pc' := 45) 26 rfl rfl ?_
      refine z_il3 (pc' := 46) 27 rfl rfl ?_
      refine z_iconst (v := (-1)) (by decide) (pc' := 47) 28 rfl rfl ?_
      refine z_callV1 (pc' := 50) 29 rfl rfl k_Wb_250 (by assumption) (c_Co_fits hco hi hrp hp (by omega) _) (by decide) (Nat.le_refl _) (Nat.le_refl _) rfl rfl (Nat.le_of_ble_eq_true rfl) ?_
      first | refine z_if_eqB (pc' := 53) 30 rfl rfl (tgt := 64) rfl (fun h50 => ?_) (fun h50 => ?_) | refine z_if_eqN (pc' := 53) 30 rfl rfl (tgt := 64) rfl (by omega) (fun h50 => ?_) (fun h50 => ?_) | refine z_if_eq (pc' := 53) 30 rfl rfl (tgt := 64) rfl (fun h50 => ?_) (fun h50 => ?_)
      · first | refine z_inc3N rfl rfl (pc' := 67) 38 rfl rfl ?_ | refine z_inc3 rfl rfl rfl (pc' := 67) 38 rfl rfl ?_
        refine z_goto 39 rfl (tgt := 34) rfl ?_
        have hh2 := hh.trans hu
        rw [hF, if_neg h50] at hh2
        exact l_Wb_span1 hco hi hrp ⟨fs, h4⟩ hp K1 i (fc + 1) (by omega) (by omega) hh2 K
      · refine z_il1 (pc' := 54) 31 rfl rfl ?_
        refine z_iconst (v := nI 1) (by decide) (pc' := 55) 32 rfl rfl ?_
        first | refine z_icmp_ne (pc' := 58) 33 rfl rfl (tgt := 62) rfl (fun h55 => ?_) (fun h55 => ?_)
        · refine z_il3 (pc' := 63) 36 rfl rfl ?_
          exact z_ireturn 37 rfl rfl (by first | rfl | exact zbo_nar) rfl rfl (by have hh2 := hh.trans hu; rw [hF, if_pos h50] at hh2; have q9 := K1 _ (by omega) hh2; rw [if_neg h55, show (10 * pt + fc) % 10 = fc by omega] at q9; exact q9)
        · refine z_il2 (pc' := 59) 34 rfl rfl ?_
          refine z_goto 35 rfl (tgt := 63) rfl ?_
          exact z_ireturn 37 rfl rfl (by first | rfl | exact zbo_nar) rfl rfl (by have hh2 := hh.trans hu; rw [hF, if_pos h50] at hh2; have q9 := K1 _ (by omega) hh2; rw [if_pos h55, show (10 * pt + fc) / 10 = pt by omega] at q9; exact q9)
set_option maxHeartbeats 4000000 in
set_option maxRecDepth 100000 in
theorem l_Wb_span2 {G : zG} {n u : Nat} {Φ : zP} {μ : Nat → va_E} {S : Nat → Nat → Nat} {sc ch : Int32} (hco : isCo μ S sc ch) (hi : iS S) (hrp : iRp S) (hob : ∃ fs, μ 4 = .inr (11, .ref 5 :: fs)) {x : Int32} (K1 : ∀ v, v < 80 → ffS S (-1) = v → Φ (some (.int (if x = nI 1 then nI (v / 10) else nI (v % 10)))) μ) (K2 : ffS S (-1) = 80 → Φ (some (.int (-3))) μ) : ∀ i pt w, pt + i = 8 → ffS S (-1) = fsA (fitV S (-1)) (80 - 10 * pt) (10 * pt) →
    zW G 2 M_Wb_span 26 [.ref 4, .int x, .int (nI pt), w] [] n u μ n u Φ
  | 0, pt, w, e, hh => by
    obtain rfl : pt = 8 := by omega
    refine z_il2 (pc' := 27) 16 rfl rfl ?_
    refine z_bipush (v := nI 8) (by decide) (pc' := 29) 17 rfl rfl ?_
    first | refine z_icmp_geN (pc' := 32) 18 rfl rfl (tgt := 76) rfl (by omega) (by omega) (fun h29 => ?_) (fun h29 => ?_) | refine z_icmp_ge (pc' := 32) 18 rfl rfl (tgt := 76) rfl (fun h29 => ?_) (fun h29 => ?_)
    · refine z_bipush (v := (-3)) (by decide) (pc' := 78) 42 rfl rfl ?_
      exact z_ireturn 43 rfl rfl (by first | rfl | exact zbo_nar) rfl rfl (by exact K2 hh)
    · exfalso; omega
  | i + 1, pt, w, e, hh => by
    refine z_il2 (pc' := 27) 16 rfl rfl ?_
    refine z_bipush (v := nI 8) (by decide) (pc' := 29) 17 rfl rfl ?_
    first | refine z_icmp_geN (pc' := 32) 18 rfl rfl (tgt := 76) rfl (by omega) (by omega) (fun h29 => ?_) (fun h29 => ?_) | refine z_icmp_ge (pc' := 32) 18 rfl rfl (tgt := 76) rfl (fun h29 => ?_) (fun h29 => ?_)
    · exfalso; omega
    · refine z_iconst (v := nI 1) (by decide) (pc' := 33) 19 rfl rfl ?_
      refine z_is3 rfl rfl (pc' := 34) 20 rfl rfl ?_
      refine l_Wb_span1 hco hi hrp hob (by omega) (fun v hv he => K1 v hv (hh.trans he)) 9 1 (by omega) (by omega) ?_ (fun h7 => ?_)
      · rw [show 80 - 10 * pt = (80 - (10 * pt + 1)) + 1 by omega]
        show (if fitV S (-1) (10 * pt) = true then _ else _) = _
        rw [fitV_0, if_neg (by decide)]
      · first | refine z_inc2N rfl rfl (pc' := 73) 40 rfl rfl ?_ | refine z_inc2 rfl rfl rfl (pc' := 73) 40 rfl rfl ?_
        refine z_goto 41 rfl (tgt := 26) rfl ?_
        exact l_Wb_span2 hco hi hrp hob K1 K2 i (pt + 1) _ (by omega) (by rw [hh, h7, show 10 * (pt + 1) = 10 * pt + 10 by omega])
set_option maxHeartbeats 4000000 in
set_option maxRecDepth 100000 in
theorem c_Wb_span {G : zG} {n u : Nat} {μ : Nat → va_E} {κ : zκ} {kp : Int32} {ac : Value} (h : cst μ κ) (hob : isOb μ kp ac) (hrp : iRp κ.1) (x : Int32) :
    zMet G 3 M_Wb_span [.ref 4, .int x] n u μ n u (cK μ (f_span κ x, κ)) := by
  obtain ⟨S, mo, pr, fa, sc, ch, rc, D⟩ := κ
  have hst := h
  have hrp : iRp S := hrp
  obtain ⟨h1, ⟨cs, q, h2⟩, ⟨β, its, h3, h3a, h3b⟩, ⟨c23, h4⟩, h5⟩ := h
  have hk5 := h5
  obtain ⟨hi, hx, hmo, hrc⟩ := h5
  have hi0 := hi.1
  have hi1 := hi.2.1
  have hi2 := hi.2.2.1
  have hi3 := hi.2.2.2.2.1
  refine z_start (lv := [.ref 4, .int x, .retAddr 0, .retAddr 0]) K_Wb_span rfl rfl (Nat.le_refl _) (Nat.le_refl _) (Nat.le_of_ble_eq_true rfl) rfl ?_
  unfold isOb at hob
  have hob4 : ∃ fs, pcc μ S sc ch mo cs pr fa q 4 = .inr (11, .ref 5 :: fs) := ⟨_, by rw [pcc_o (by decide)]; exact hob⟩
  refine z_mu (pcc_id h1 h2).symm ?_
  refine z_il1 (pc' := 1) 0 rfl rfl ?_
  refine z_iconst (v := nI 0) (by decide) (pc' := 2) 1 rfl rfl ?_
  refine z_iconst (v := nI 2) (by decide) (pc' := 3) 2 rfl rfl ?_
  refine z_callS1 (pc' := 6) 3 rfl rfl k_Wb_72 (c_Wb_within _ _ _) (by decide) (Nat.le_refl _) (Nat.le_refl _) rfl rfl (Nat.le_of_ble_eq_true rfl) ?_
  first | refine z_if_neB (pc' := 9) 4 rfl rfl (tgt := 11) rfl (fun h6 => ?_) (fun h6 => ?_) | refine z_if_neN (pc' := 9) 4 rfl rfl (tgt := 11) rfl (by omega) (fun h6 => ?_) (fun h6 => ?_) | refine z_if_ne (pc' := 9) 4 rfl rfl (tgt := 11) rfl (fun h6 => ?_) (fun h6 => ?_)
  · refine z_il1 (pc' := 12) 7 rfl rfl ?_
    first | refine z_if_ne (pc' := 15) 8 rfl rfl (tgt := 24) rfl (fun h12 => ?_) (fun h12 => ?_)
    · refine z_iconst (v := nI 0) (by decide) (pc' := 25) 14 rfl rfl ?_
      refine z_is2 rfl rfl (pc' := 26) 15 rfl rfl ?_
      refine zW_dm (show 2 ≤ 3 by decide) ?_
      refine l_Wb_span2 (x := x) isCo_pcc hi hrp hob4 (fun v hv he => ?_) (fun he => ?_) 8 0 _ (by omega) rfl
      · show cK μ _ _ _; rw [f_span, if_pos h6, if_neg (show ¬ x = nI 0 from h12), if_neg (by omega), he]; exact cK_of hst rfl rfl (hk5)
      · show cK μ _ _ _; rw [f_span, if_pos h6, if_neg (show ¬ x = nI 0 from h12), if_pos he]; exact cK_of hst rfl rfl (hk5)
    · refine z_al0 (pc' := 16) 9 rfl rfl ?_
      refine z_getf (pc' := 19) 10 rfl rfl f_Wb_10_11 (by first | exact pcc_5 | exact pcc_6 | exact pcc_7 | exact pcc_8 | exact pcc_9 | exact pcc_10 | exact pcc_11 | exact pcc_12 | exact pcc_13 | exact pcc_14 | exact pcc_15 | exact pcc_22 | (rw [pcc_o (by decide)]; assumption)) (by rfl) ?_
      refine z_iconst (v := (-1)) (by decide) (pc' := 20) 11 rfl rfl ?_
      refine z_callV1 (pc' := 23) 12 rfl rfl k_Wb_247 (by first | exact pcc_5 | exact pcc_6 | exact pcc_7 | exact pcc_8 | exact pcc_9 | exact pcc_10 | exact pcc_11 | exact pcc_12 | exact pcc_13 | exact pcc_14 | exact pcc_15 | exact pcc_22 | (rw [pcc_o (by decide)]; assumption)) (c_Co_fittingWinds isCo_pcc hi hrp _) (by decide) (Nat.le_refl _) (Nat.le_refl _) rfl rfl (Nat.le_of_ble_eq_true rfl) ?_
      exact z_ireturn 13 rfl rfl (by first | rfl | exact zbo_nar) rfl rfl (by show cK μ _ _ _; rw [f_span, if_pos h6, if_pos (show x = nI 0 from h12)]; exact cK_of hst rfl rfl (hk5))
  · refine z_iconst (v := (-1)) (by decide) (pc' := 10) 5 rfl rfl ?_
    exact z_ireturn 6 rfl rfl (by first | rfl | exact zbo_nar) rfl rfl (by show cK μ _ _ _; rw [f_span, if_neg h6]; exact cK_of hst rfl rfl (hk5))
set_option maxHeartbeats 4000000 in
set_option maxRecDepth 100000 in
theorem l_Wb_liar {G : zG} {n u : Nat} {μ : Nat → va_E} {S : Nat → Nat → Nat} {sc ch : Int32} (hco : isCo μ S sc ch) (hi : iS S) (hrp : iRp S) (hob : ∃ fs, μ 4 = .inr (11, .ref 5 :: fs)) : ∀ j r, r + j = S 0 2 → zW G 3 M_Wb_liar 16 [.ref 4, .int (nI r)] [] n u μ n u (zE (some (.int (lrA S j r))) μ)
  | 0, r, e => by
    have hi2 := hi.2.2.1
    have hco5 := hco.1
    obtain ⟨fs, h4⟩ := hob
    refine z_il1 (pc' := 17) 9 rfl rfl ?_
    refine z_al0 (pc' := 18) 10 rfl rfl ?_
    refine z_getf (pc' := 21) 11 rfl rfl f_Wb_10_11 (by assumption) (by rfl) ?_
    refine z_getf (pc' := 24) 12 rfl rfl f_Wb_241_3 (by assumption) (by rfl) ?_
    first | refine z_icmp_geN (pc' := 27) 13 rfl rfl (tgt := 46) rfl (by omega) (by omega) (fun h24 => ?_) (fun h24 => ?_) | refine z_icmp_ge (pc' := 27) 13 rfl rfl (tgt := 46) rfl (fun h24 => ?_) (fun h24 => ?_)
    · refine z_bipush (v := (-3)) (by decide) (pc' := 48) 23 rfl rfl ?_
      exact z_ireturn 24 rfl rfl (by first | rfl | exact zbo_nar) rfl rfl (by exact ⟨rfl, rfl⟩)
    · exfalso; omega
  | j + 1, r, e => by
    have hi2 := hi.2.2.1
    have hco5 := hco.1
    obtain ⟨fs, h4⟩ := hob
    obtain ⟨c1, c2, c3⟩ := cn_fs (F := fitV S (nI r)) 80 0 0
    have c4 := cnA_le (F := fitV S (nI r)) 80 0 0
    refine z_il1 (pc' := 17) 9 rfl rfl ?_
    refine z_al0 (pc' := 18) 10 rfl rfl ?_
    refine z_getf (pc' := 21) 11 rfl rfl f_Wb_10_11 (by assumption) (by rfl) ?_
    refine z_getf (pc' := 24) 12 rfl rfl f_Wb_241_3 (by assumption) (by rfl) ?_
    first | refine z_icmp_geN (pc' := 27) 13 rfl rfl (tgt := 46) rfl (by omega) (by omega) (fun h24 => ?_) (fun h24 => ?_) | refine z_icmp_ge (pc' := 27) 13 rfl rfl (tgt := 46) rfl (fun h24 => ?_) (fun h24 => ?_)
    · exfalso; omega
    · refine z_al0 (pc' := 28) 14 rfl rfl ?_
      refine z_getf (pc' := 31) 15 rfl rfl f_Wb_10_11 (by assumption) (by rfl) ?_
      refine z_il1 (pc' := 32) 16 rfl rfl ?_
      refine z_callV1 (pc' := 35) 17 rfl rfl k_Wb_247 (by assumption) (c_Co_fittingWinds hco hi hrp _) (by decide) (Nat.le_refl _) (Nat.le_refl _) rfl rfl (Nat.le_of_ble_eq_true rfl) ?_
      first | refine z_if_leN (pc' := 38) 18 rfl rfl (tgt := 40) rfl (by omega) (fun h35 => ?_) (fun h35 => ?_) | refine z_if_le (pc' := 38) 18 rfl rfl (tgt := 40) rfl (fun h35 => ?_) (fun h35 => ?_)
      · first | refine z_inc1N rfl rfl (pc' := 43) 21 rfl rfl ?_ | refine z_inc1 rfl rfl rfl (pc' := 43) 21 rfl rfl ?_
        refine z_goto 22 rfl (tgt := 16) rfl ?_
        rw [show lrA S (j + 1) r = lrA S j (r + 1) from if_pos (c1.mp (by omega))]
        exact l_Wb_liar hco hi hrp ⟨fs, h4⟩ j (r + 1) (by omega)
      · refine z_il1 (pc' := 39) 19 rfl rfl ?_
        exact z_ireturn 20 rfl rfl (by first | rfl | exact zbo_nar) rfl rfl (by exact ⟨by rw [show lrA S (j + 1) r = nI r from if_neg (fun z => by have := c1.mpr z; omega)], rfl⟩)
set_option maxHeartbeats 4000000 in
set_option maxRecDepth 100000 in
theorem c_Wb_liar {G : zG} {n u : Nat} {μ : Nat → va_E} {κ : zκ} {kp : Int32} {ac : Value} (h : cst μ κ) (hob : isOb μ kp ac) (hrp : iRp κ.1) :
    zMet G 4 M_Wb_liar [.ref 4] n u μ n u (cK μ (f_liar κ, κ)) := by
  obtain ⟨S, mo, pr, fa, sc, ch, rc, D⟩ := κ
  have hst := h
  have hrp : iRp S := hrp
  obtain ⟨h1, ⟨cs, q, h2⟩, ⟨β, its, h3, h3a, h3b⟩, ⟨c23, h4⟩, h5⟩ := h
  have hk5 := h5
  obtain ⟨hi, hx, hmo, hrc⟩ := h5
  have hi0 := hi.1
  have hi1 := hi.2.1
  have hi2 := hi.2.2.1
  have hi3 := hi.2.2.2.2.1
  refine z_start (lv := [.ref 4, .retAddr 0]) K_Wb_liar rfl rfl (Nat.le_refl _) (Nat.le_refl _) (Nat.le_of_ble_eq_true rfl) rfl ?_
  unfold isOb at hob
  have hob4 : ∃ fs, pcc μ S sc ch mo cs pr fa q 4 = .inr (11, .ref 5 :: fs) := ⟨_, by rw [pcc_o (by decide)]; exact hob⟩
  refine z_mu (pcc_id h1 h2).symm ?_
  refine z_al0 (pc' := 1) 0 rfl rfl ?_
  refine z_getf (pc' := 4) 1 rfl rfl f_Wb_10_11 (by first | exact pcc_5 | exact pcc_6 | exact pcc_7 | exact pcc_8 | exact pcc_9 | exact pcc_10 | exact pcc_11 | exact pcc_12 | exact pcc_13 | exact pcc_14 | exact pcc_15 | exact pcc_22 | (rw [pcc_o (by decide)]; assumption)) (by rfl) ?_
  refine z_iconst (v := (-1)) (by decide) (pc' := 5) 2 rfl rfl ?_
  refine z_callV1 (pc' := 8) 3 rfl rfl k_Wb_247 (by first | exact pcc_5 | exact pcc_6 | exact pcc_7 | exact pcc_8 | exact pcc_9 | exact pcc_10 | exact pcc_11 | exact pcc_12 | exact pcc_13 | exact pcc_14 | exact pcc_15 | exact pcc_22 | (rw [pcc_o (by decide)]; assumption)) (c_Co_fittingWinds isCo_pcc hi hrp _) (by decide) (Nat.le_refl _) (Nat.le_refl _) rfl rfl (Nat.le_of_ble_eq_true rfl) ?_
  obtain ⟨c1, c2, c3⟩ := cn_fs (F := fitV S (-1)) 80 0 0
  have c4 := cnA_le (F := fitV S (-1)) 80 0 0
  first | refine z_if_leN (pc' := 11) 4 rfl rfl (tgt := 14) rfl (by omega) (fun h8 => ?_) (fun h8 => ?_) | refine z_if_le (pc' := 11) 4 rfl rfl (tgt := 14) rfl (fun h8 => ?_) (fun h8 => ?_)
  · refine z_iconst (v := nI 0) (by decide) (pc' := 15) 7 rfl rfl ?_
    refine z_is1 rfl rfl (pc' := 16) 8 rfl rfl ?_
    refine zW_dm (show 3 ≤ 4 by decide) ?_
    refine zW_to (l_Wb_liar isCo_pcc hi hrp hob4 (S 0 2) 0 (Nat.zero_add _)) ?_
    show cK μ _ _ _; rw [f_liar, if_pos (c1.mp (by omega))]; exact cK_of hst rfl rfl (hk5)
  · refine z_bipush (v := (-3)) (by decide) (pc' := 13) 5 rfl rfl ?_
    exact z_ireturn 6 rfl rfl (by first | rfl | exact zbo_nar) rfl rfl (by show cK μ _ _ _; rw [f_liar, if_neg (fun z => by have := c1.mpr z; omega)]; exact cK_of hst rfl rfl (hk5))
set_option maxHeartbeats 4000000 in
set_option maxRecDepth 100000 in
theorem l_Mo_fits {G : zG} {n u : Nat} {ν : Nat → va_E} {s : Nat → Int32} {S : Nat → Nat → Nat} {mo : Nat} {pr fa : Nat → Nat} {sc ch : Int32} {rc : Nat} {ρ : Nat → Int32} (hi : iS S) (hrp : iRp S) {pt fc : Nat} (hp : pt ≤ 7) (hf : fc ≤ 9) {but : Int32} : ∀ j r (b : Bool), r + j = S 0 2 → zW G 1 M_Mo_fits 6 [.ref 88, .int (nI pt), .int (nI fc), .int but, .int (bI b), .int (nI r), .retAddr 0, .retAddr 0] [] n u (pm ν s (mk S mo pr fa sc ch rc ρ)) n u (zE (some (.int (bI (b && fiA S pt fc but j r)))) (pm ν s (mk S mo pr fa sc ch rc ρ)))
  | 0, r, b, e => by
    have hi2 := hi.2.2.1
    refine z_il5 (pc' := 8) 4 rfl rfl ?_
    refine z_al0 (pc' := 9) 5 rfl rfl ?_
    refine z_getf (pc' := 12) 6 rfl rfl f_Mo_9_12 (by first | exact pm_f | exact pm_1 | (rw [pm_o (by decide)]; assumption)) (by rfl) ?_
    refine z_bipush (v := nI 6) (by decide) (pc' := 14) 7 rfl rfl ?_
    refine z_iald (pc' := 15) 8 rfl rfl (by first | exact pm_f | exact pm_1 | (rw [pm_o (by decide)]; assumption)) (by omega) (by decide) ?_
    rw [mk_6]
    first | refine z_icmp_geN (pc' := 18) 9 rfl rfl (tgt := 104) rfl (by omega) (by omega) (fun h15 => ?_) (fun h15 => ?_) | refine z_icmp_ge (pc' := 18) 9 rfl rfl (tgt := 104) rfl (fun h15 => ?_) (fun h15 => ?_)
    · refine z_il4 (pc' := 106) 58 rfl rfl ?_
      exact z_ireturn 59 rfl rfl (by first | rfl | exact zbo_nar) rfl rfl (by exact ⟨by rw [show (b && fiA S pt fc but 0 r) = b from Bool.and_true b], rfl⟩)
    · exfalso; omega
  | j + 1, r, b, e => by
    have hi2 := hi.2.2.1
    obtain ⟨hk5, hh7⟩ := hrp r (by omega)
    have b2 := (hi.2.2.2.2.2 (4 * r + 2)).2.2.2.2.2.2.2.1
    have b3 := (hi.2.2.2.2.2 (4 * r + 3)).2.2.2.2.2.2.2.1
    have bg := gn_le (k := S 8 (4 * r)) (f := fc) (t := tn pt (S 8 (4 * r + 1))) (m := 3) hf
    have bt := tn_le hp hh7
    refine z_il5 (pc' := 8) 4 rfl rfl ?_
    refine z_al0 (pc' := 9) 5 rfl rfl ?_
    refine z_getf (pc' := 12) 6 rfl rfl f_Mo_9_12 (by first | exact pm_f | exact pm_1 | (rw [pm_o (by decide)]; assumption)) (by rfl) ?_
    refine z_bipush (v := nI 6) (by decide) (pc' := 14) 7 rfl rfl ?_
    refine z_iald (pc' := 15) 8 rfl rfl (by first | exact pm_f | exact pm_1 | (rw [pm_o (by decide)]; assumption)) (by omega) (by decide) ?_
    rw [mk_6]
    first | refine z_icmp_geN (pc' := 18) 9 rfl rfl (tgt := 104) rfl (by omega) (by omega) (fun h15 => ?_) (fun h15 => ?_) | refine z_icmp_ge (pc' := 18) 9 rfl rfl (tgt := 104) rfl (fun h15 => ?_) (fun h15 => ?_)
    · exfalso; omega
    · refine z_bipush (v := nI 62) (by decide) (pc' := 20) 10 rfl rfl ?_
      refine z_iconst (v := nI 4) (by decide) (pc' := 21) 11 rfl rfl ?_
      refine z_il5 (pc' := 23) 12 rfl rfl ?_
      first | refine z_imulN (pc' := 24) 13 rfl rfl ?_ | refine z_imul (pc' := 24) 13 rfl rfl ?_
      first | refine z_iaddN (pc' := 25) 14 rfl rfl ?_ | refine z_iadd (pc' := 25) 14 rfl rfl ?_
      refine z_is6 rfl rfl (pc' := 27) 15 rfl rfl ?_
      refine z_al0 (pc' := 28) 16 rfl rfl ?_
      refine z_getf (pc' := 31) 17 rfl rfl f_Mo_9_12 (by first | exact pm_f | exact pm_1 | (rw [pm_o (by decide)]; assumption)) (by rfl) ?_
      refine z_il6 (pc' := 33) 18 rfl rfl ?_
      refine z_iald (pc' := 34) 19 rfl rfl (by first | exact pm_f | exact pm_1 | (rw [pm_o (by decide)]; assumption)) (by omega) (by decide) ?_
      rw [mk_r (by omega)]
      refine z_al0 (pc' := 35) 20 rfl rfl ?_
      refine z_getf (pc' := 38) 21 rfl rfl f_Mo_9_12 (by first | exact pm_f | exact pm_1 | (rw [pm_o (by decide)]; assumption)) (by rfl) ?_
      refine z_il6 (pc' := 40) 22 rfl rfl ?_
      refine z_iconst (v := nI 1) (by decide) (pc' := 41) 23 rfl rfl ?_
      first | refine z_iaddN (pc' := 42) 24 rfl rfl ?_ | refine z_iadd (pc' := 42) 24 rfl rfl ?_
      refine z_iald (pc' := 43) 25 rfl rfl (by first | exact pm_f | exact pm_1 | (rw [pm_o (by decide)]; assumption)) (by omega) (by decide) ?_
      rw [Nat.add_assoc, mk_r (by omega)]
      refine z_il1 (pc' := 44) 26 rfl rfl ?_
      refine z_callS1 (pc' := 47) 27 rfl rfl k_Mo_78 (c_Mo_apart hp hh7) (by decide) (Nat.le_refl _) (Nat.le_refl _) rfl rfl (Nat.le_of_ble_eq_true rfl) ?_
      refine z_il2 (pc' := 48) 28 rfl rfl ?_
      refine z_iconst (v := nI 3) (by decide) (pc' := 49) 29 rfl rfl ?_
      refine z_callS1 (pc' := 52) 30 rfl rfl k_Mo_84 (c_Mo_gains hk5 hf bt (by decide)) (by decide) (Nat.le_refl _) (Nat.le_refl _) rfl rfl (Nat.le_of_ble_eq_true rfl) ?_
      refine z_is7 rfl rfl (pc' := 54) 31 rfl rfl ?_
      refine z_il4 (pc' := 56) 32 rfl rfl ?_
      first | refine z_if_eqB (pc' := 59) 33 rfl rfl (tgt := 95) rfl (fun h56 => ?_) (fun h56 => ?_) | refine z_if_eqN (pc' := 59) 33 rfl rfl (tgt := 95) rfl (by omega) (fun h56 => ?_) (fun h56 => ?_) | refine z_if_eq (pc' := 59) 33 rfl rfl (tgt := 95) rfl (fun h56 => ?_) (fun h56 => ?_)
      · refine z_iconst (v := nI 0) (by decide) (pc' := 96) 54 rfl rfl ?_
        refine z_is4 rfl rfl (pc' := 98) 55 rfl rfl ?_
        first | refine z_inc5N rfl rfl (pc' := 101) 56 rfl rfl ?_ | refine z_inc5 rfl rfl rfl (pc' := 101) 56 rfl rfl ?_
        refine z_goto 57 rfl (tgt := 6) rfl ?_
        refine z_less6 (z_less7 ?_)
        rw [show (b && fiA S pt fc but (j + 1) r) = (false && fiA S pt fc but j (r + 1)) from show (b && (okB S pt fc but r && fiA S pt fc but j (r + 1))) = _ from by rw [eq_false_of_ne_true h56]; rfl]
        exact l_Mo_fits hi hrp hp hf j (r + 1) false (by omega)
      · refine z_il5 (pc' := 61) 34 rfl rfl ?_
        refine z_il3 (pc' := 62) 35 rfl rfl ?_
        first | refine z_icmp_eq (pc' := 65) 36 rfl rfl (tgt := 91) rfl (fun h62 => ?_) (fun h62 => ?_)
        · refine z_iconst (v := nI 1) (by decide) (pc' := 92) 52 rfl rfl ?_
          refine z_goto 53 rfl (tgt := 96) rfl ?_
          refine z_is4 rfl rfl (pc' := 98) 55 rfl rfl ?_
          first | refine z_inc5N rfl rfl (pc' := 101) 56 rfl rfl ?_ | refine z_inc5 rfl rfl rfl (pc' := 101) 56 rfl rfl ?_
          refine z_goto 57 rfl (tgt := 6) rfl ?_
          refine z_less6 (z_less7 ?_)
          rw [show (b && fiA S pt fc but (j + 1) r) = (true && fiA S pt fc but j (r + 1)) from show (b && (okB S pt fc but r && fiA S pt fc but j (r + 1))) = _ from by rw [h56, okB_t.mpr (Or.inl h62)]; rfl]
          exact l_Mo_fits hi hrp hp hf j (r + 1) true (by omega)
        · refine z_il7 (pc' := 67) 37 rfl rfl ?_
          refine z_al0 (pc' := 68) 38 rfl rfl ?_
          refine z_getf (pc' := 71) 39 rfl rfl f_Mo_9_12 (by first | exact pm_f | exact pm_1 | (rw [pm_o (by decide)]; assumption)) (by rfl) ?_
          refine z_il6 (pc' := 73) 40 rfl rfl ?_
          refine z_iconst (v := nI 2) (by decide) (pc' := 74) 41 rfl rfl ?_
          first | refine z_iaddN (pc' := 75) 42 rfl rfl ?_ | refine z_iadd (pc' := 75) 42 rfl rfl ?_
          refine z_iald (pc' := 76) 43 rfl rfl (by first | exact pm_f | exact pm_1 | (rw [pm_o (by decide)]; assumption)) (by omega) (by decide) ?_
          rw [Nat.add_assoc, mk_r (by omega)]
          refine z_al0 (pc' := 77) 44 rfl rfl ?_
          refine z_getf (pc' := 80) 45 rfl rfl f_Mo_9_12 (by first | exact pm_f | exact pm_1 | (rw [pm_o (by decide)]; assumption)) (by rfl) ?_
          refine z_il6 (pc' := 82) 46 rfl rfl ?_
          refine z_iconst (v := nI 3) (by decide) (pc' := 83) 47 rfl rfl ?_
          first | refine z_iaddN (pc' := 84) 48 rfl rfl ?_ | refine z_iadd (pc' := 84) 48 rfl rfl ?_
          refine z_iald (pc' := 85) 49 rfl rfl (by first | exact pm_f | exact pm_1 | (rw [pm_o (by decide)]; assumption)) (by omega) (by decide) ?_
          rw [Nat.add_assoc, mk_r (by omega)]
          refine z_callS1 (pc' := 88) 50 rfl rfl k_Mo_67 (c_Mo_in _ _ _) (by decide) (Nat.le_refl _) (Nat.le_refl _) rfl rfl (Nat.le_of_ble_eq_true rfl) ?_
          first | refine z_if_eqB (pc' := 91) 51 rfl rfl (tgt := 95) rfl (fun h88 => ?_) (fun h88 => ?_) | refine z_if_eqN (pc' := 91) 51 rfl rfl (tgt := 95) rfl (by omega) (fun h88 => ?_) (fun h88 => ?_) | refine z_if_eq (pc' := 91) 51 rfl rfl (tgt := 95) rfl (fun h88 => ?_) (fun h88 => ?_)
          · refine z_iconst (v := nI 0) (by decide) (pc' := 96) 54 rfl rfl ?_
            refine z_is4 rfl rfl (pc' := 98) 55 rfl rfl ?_
            first | refine z_inc5N rfl rfl (pc' := 101) 56 rfl rfl ?_ | refine z_inc5 rfl rfl rfl (pc' := 101) 56 rfl rfl ?_
            refine z_goto 57 rfl (tgt := 6) rfl ?_
            refine z_less6 (z_less7 ?_)
            rw [show (b && fiA S pt fc but (j + 1) r) = (false && fiA S pt fc but j (r + 1)) from show (b && (okB S pt fc but r && fiA S pt fc but j (r + 1))) = _ from by rw [okB_f (fun z => z.elim (fun y => h62 y) (fun y => h88 ⟨nI_le y.1 (by omega), nI_le y.2 (by omega)⟩)), Bool.false_and, Bool.and_false]]
            exact l_Mo_fits hi hrp hp hf j (r + 1) false (by omega)
          · refine z_iconst (v := nI 1) (by decide) (pc' := 92) 52 rfl rfl ?_
            refine z_goto 53 rfl (tgt := 96) rfl ?_
            refine z_is4 rfl rfl (pc' := 98) 55 rfl rfl ?_
            first | refine z_inc5N rfl rfl (pc' := 101) 56 rfl rfl ?_ | refine z_inc5 rfl rfl rfl (pc' := 101) 56 rfl rfl ?_
            refine z_goto 57 rfl (tgt := 6) rfl ?_
            refine z_less6 (z_less7 ?_)
            rw [show (b && fiA S pt fc but (j + 1) r) = (true && fiA S pt fc but j (r + 1)) from show (b && (okB S pt fc but r && fiA S pt fc but j (r + 1))) = _ from by rw [h56, okB_t.mpr (Or.inr ⟨(nI_leI (by omega) (by unfold gR; omega)).mp h88.1, (nI_leI (by unfold gR; omega) (by omega)).mp h88.2⟩)]; rfl]
            exact l_Mo_fits hi hrp hp hf j (r + 1) true (by omega)
set_option maxHeartbeats 4000000 in
set_option maxRecDepth 100000 in
theorem c_Mo_fits {G : zG} {n u : Nat} {ν : Nat → va_E} {s : Nat → Int32} {S : Nat → Nat → Nat} {mo : Nat} {pr fa : Nat → Nat} {sc ch : Int32} {rc : Nat} {ρ : Nat → Int32} (hi : iS S) (hrp : iRp S) {pt fc : Nat} (hp : pt ≤ 7) (hf : fc ≤ 9) (but : Int32) : zMet G 1 M_Mo_fits [.ref 88, .int (nI pt), .int (nI fc), .int but] n u (pm ν s (mk S mo pr fa sc ch rc ρ)) n u (zE (some (.int (zbo (fiA S pt fc but (S 0 2) 0 = true)))) (pm ν s (mk S mo pr fa sc ch rc ρ))) := by
  refine z_start (lv := [.ref 88, .int (nI pt), .int (nI fc), .int but, .retAddr 0, .retAddr 0, .retAddr 0, .retAddr 0]) K_Mo_fits rfl rfl (Nat.le_refl _) (Nat.le_refl _) (Nat.le_of_ble_eq_true rfl) rfl ?_
  refine z_iconst (v := nI 1) (by decide) (pc' := 1) 0 rfl rfl ?_
  refine z_is4 rfl rfl (pc' := 3) 1 rfl rfl ?_
  refine z_iconst (v := nI 0) (by decide) (pc' := 4) 2 rfl rfl ?_
  refine z_is5 rfl rfl (pc' := 6) 3 rfl rfl ?_
  exact l_Mo_fits hi hrp hp hf _ 0 true (Nat.zero_add _)
def stJ (f : Nat) : Int32 := if f = 80 then -1 else nI f
set_option maxHeartbeats 4000000 in
set_option maxRecDepth 100000 in
theorem l_Mo_strange {G : zG} {n u : Nat} {ν : Nat → va_E} {s : Nat → Int32} {S : Nat → Nat → Nat} {mo : Nat} {pr fa : Nat → Nat} {sc ch : Int32} {rc : Nat} {ρ : Nat → Int32} (hi : iS S) (hrp : iRp S) {but : Int32} : ∀ j v, v + j = 80 → zW G 2 M_Mo_strange 2 [.ref 88, .int but, .int (nI v)] [] n u (pm ν s (mk S mo pr fa sc ch rc ρ)) n u (zE (some (.int (stJ (fsA (fitV S but) j v)))) (pm ν s (mk S mo pr fa sc ch rc ρ)))
  | 0, v, e => by
    obtain rfl : v = 80 := by omega
    refine z_il2 (pc' := 3) 2 rfl rfl ?_
    refine z_bipush (v := nI 80) (by decide) (pc' := 5) 3 rfl rfl ?_
    first | refine z_icmp_geN (pc' := 8) 4 rfl rfl (tgt := 39) rfl (by omega) (by omega) (fun h5 => ?_) (fun h5 => ?_) | refine z_icmp_ge (pc' := 8) 4 rfl rfl (tgt := 39) rfl (fun h5 => ?_) (fun h5 => ?_)
    · refine z_iconst (v := (-1)) (by decide) (pc' := 40) 23 rfl rfl ?_
      exact z_ireturn 24 rfl rfl (by first | rfl | exact zbo_nar) rfl rfl (by exact ⟨rfl, rfl⟩)
    · exfalso; omega
  | j + 1, v, e => by
    refine z_il2 (pc' := 3) 2 rfl rfl ?_
    refine z_bipush (v := nI 80) (by decide) (pc' := 5) 3 rfl rfl ?_
    first | refine z_icmp_geN (pc' := 8) 4 rfl rfl (tgt := 39) rfl (by omega) (by omega) (fun h5 => ?_) (fun h5 => ?_) | refine z_icmp_ge (pc' := 8) 4 rfl rfl (tgt := 39) rfl (fun h5 => ?_) (fun h5 => ?_)
    · exfalso; omega
    · refine z_il2 (pc' := 9) 5 rfl rfl ?_
      refine z_bipush (v := nI 10) (by decide) (pc' := 11) 6 rfl rfl ?_
      refine z_irem (by decide) (pc' := 12) 7 rfl rfl ?_
      rw [pk_rem (by omega) (by decide) (by decide)]
      first | refine z_if_leN (pc' := 15) 8 rfl rfl (tgt := 33) rfl (by omega) (fun h12 => ?_) (fun h12 => ?_) | refine z_if_le (pc' := 15) 8 rfl rfl (tgt := 33) rfl (fun h12 => ?_) (fun h12 => ?_)
      · first | refine z_inc2N rfl rfl (pc' := 36) 21 rfl rfl ?_ | refine z_inc2 rfl rfl rfl (pc' := 36) 21 rfl rfl ?_
        refine z_goto 22 rfl (tgt := 2) rfl ?_
        rw [show fsA (fitV S but) (j + 1) v = fsA (fitV S but) j (v + 1) from if_neg (by show ¬ (decide (0 < v % 10) && _) = true; rw [decide_eq_false (by omega)]; exact fun z => Bool.noConfusion z)]
        exact l_Mo_strange hi hrp j (v + 1) (by omega)
      · refine z_al0 (pc' := 16) 9 rfl rfl ?_
        refine z_il2 (pc' := 17) 10 rfl rfl ?_
        refine z_bipush (v := nI 10) (by decide) (pc' := 19) 11 rfl rfl ?_
        refine z_idiv (by decide) (pc' := 20) 12 rfl rfl ?_
        rw [pk_div (by omega) (by decide) (by decide)]
        refine z_il2 (pc' := 21) 13 rfl rfl ?_
        refine z_bipush (v := nI 10) (by decide) (pc' := 23) 14 rfl rfl ?_
        refine z_irem (by decide) (pc' := 24) 15 rfl rfl ?_
        rw [pk_rem (by omega) (by decide) (by decide)]
        refine z_il1 (pc' := 25) 16 rfl rfl ?_
        refine z_callV1 (pc' := 28) 17 rfl rfl k_Mo_294 (by first | exact pm_f | exact pm_1 | (rw [pm_o (by decide)]; assumption)) (c_Mo_fits hi hrp (by omega) (by omega) _) (by decide) (Nat.le_refl _) (Nat.le_refl _) rfl rfl (Nat.le_of_ble_eq_true rfl) ?_
        first | refine z_if_eqB (pc' := 31) 18 rfl rfl (tgt := 33) rfl (fun h28 => ?_) (fun h28 => ?_) | refine z_if_eqN (pc' := 31) 18 rfl rfl (tgt := 33) rfl (by omega) (fun h28 => ?_) (fun h28 => ?_) | refine z_if_eq (pc' := 31) 18 rfl rfl (tgt := 33) rfl (fun h28 => ?_) (fun h28 => ?_)
        · first | refine z_inc2N rfl rfl (pc' := 36) 21 rfl rfl ?_ | refine z_inc2 rfl rfl rfl (pc' := 36) 21 rfl rfl ?_
          refine z_goto 22 rfl (tgt := 2) rfl ?_
          rw [show fsA (fitV S but) (j + 1) v = fsA (fitV S but) j (v + 1) from if_neg (by show ¬ (decide (0 < v % 10) && _) = true; rw [decide_eq_true (by omega), Bool.true_and]; exact h28)]
          exact l_Mo_strange hi hrp j (v + 1) (by omega)
        · refine z_il2 (pc' := 32) 19 rfl rfl ?_
          exact z_ireturn 20 rfl rfl (by first | rfl | exact zbo_nar) rfl rfl (by exact ⟨by rw [show fsA (fitV S but) (j + 1) v = v from if_pos (by show (decide (0 < v % 10) && _) = true; rw [decide_eq_true (by omega), Bool.true_and]; exact h28), show stJ v = nI v from if_neg (by omega)], rfl⟩)
set_option maxHeartbeats 4000000 in
set_option maxRecDepth 100000 in
theorem c_Mo_strange {G : zG} {n u : Nat} {ν : Nat → va_E} {s : Nat → Int32} {S : Nat → Nat → Nat} {mo : Nat} {pr fa : Nat → Nat} {sc ch : Int32} {rc : Nat} {ρ : Nat → Int32} (hi : iS S) (hrp : iRp S) (but : Int32) : zMet G 2 M_Mo_strange [.ref 88, .int but] n u (pm ν s (mk S mo pr fa sc ch rc ρ)) n u (zE (some (.int (stJ (ffS S but)))) (pm ν s (mk S mo pr fa sc ch rc ρ))) := by
  refine z_start (lv := [.ref 88, .int but, .retAddr 0]) K_Mo_strange rfl rfl (Nat.le_refl _) (Nat.le_refl _) (Nat.le_of_ble_eq_true rfl) rfl ?_
  refine z_iconst (v := nI 0) (by decide) (pc' := 1) 0 rfl rfl ?_
  refine z_is2 rfl rfl (pc' := 2) 1 rfl rfl ?_
  exact l_Mo_strange hi hrp 80 0 (by omega)
set_option maxHeartbeats 4000000 in
set_option maxRecDepth 100000 in
theorem l_Mo_span {G : zG} {n u : Nat} {ν : Nat → va_E} {s : Nat → Int32} {S : Nat → Nat → Nat} {mo : Nat} {pr fa : Nat → Nat} {sc ch : Int32} {rc : Nat} {ρ : Nat → Int32} (hi : iS S) (hrp : iRp S) {x0 : Int32} : ∀ j v a, v + j = 80 → a ≤ v → zW G 3 M_Mo_span 51 [.ref 88, .int x0, .int (nI a), .int (nI v)] [] n u (pm ν s (mk S mo pr fa sc ch rc ρ)) n u (zE (some (.int (nI (cnA (fitV S (-1)) j v a)))) (pm ν s (mk S mo pr fa sc ch rc ρ)))
  | 0, v, a, e, ha => by
    obtain rfl : v = 80 := by omega
    refine z_il3 (pc' := 52) 32 rfl rfl ?_
    refine z_bipush (v := nI 80) (by decide) (pc' := 54) 33 rfl rfl ?_
    first | refine z_icmp_geN (pc' := 57) 34 rfl rfl (tgt := 94) rfl (by omega) (by omega) (fun h54 => ?_) (fun h54 => ?_) | refine z_icmp_ge (pc' := 57) 34 rfl rfl (tgt := 94) rfl (fun h54 => ?_) (fun h54 => ?_)
    · refine z_il2 (pc' := 95) 57 rfl rfl ?_
      exact z_ireturn 58 rfl rfl (by first | rfl | exact zbo_nar) rfl rfl (by exact ⟨rfl, rfl⟩)
    · exfalso; omega
  | j + 1, v, a, e, ha => by
    refine z_il3 (pc' := 52) 32 rfl rfl ?_
    refine z_bipush (v := nI 80) (by decide) (pc' := 54) 33 rfl rfl ?_
    first | refine z_icmp_geN (pc' := 57) 34 rfl rfl (tgt := 94) rfl (by omega) (by omega) (fun h54 => ?_) (fun h54 => ?_) | refine z_icmp_ge (pc' := 57) 34 rfl rfl (tgt := 94) rfl (fun h54 => ?_) (fun h54 => ?_)
    · exfalso; omega
    · refine z_il2 (pc' := 58) 35 rfl rfl ?_
      refine z_il3 (pc' := 59) 36 rfl rfl ?_
      refine z_bipush (v := nI 10) (by decide) (pc' := 61) 37 rfl rfl ?_
      refine z_irem (by decide) (pc' := 62) 38 rfl rfl ?_
      rw [pk_rem (by omega) (by decide) (by decide)]
      first | refine z_if_leN (pc' := 65) 39 rfl rfl (tgt := 85) rfl (by omega) (fun h62 => ?_) (fun h62 => ?_) | refine z_if_le (pc' := 65) 39 rfl rfl (tgt := 85) rfl (fun h62 => ?_) (fun h62 => ?_)
      · refine z_iconst (v := nI 0) (by decide) (pc' := 86) 52 rfl rfl ?_
        first | refine z_iaddN (pc' := 87) 53 rfl rfl ?_ | refine z_iadd (pc' := 87) 53 rfl rfl ?_
        refine z_is2 rfl rfl (pc' := 88) 54 rfl rfl ?_
        first | refine z_inc3N rfl rfl (pc' := 91) 55 rfl rfl ?_ | refine z_inc3 rfl rfl rfl (pc' := 91) 55 rfl rfl ?_
        refine z_goto 56 rfl (tgt := 51) rfl ?_
        rw [show cnA (fitV S (-1)) (j + 1) v a = cnA (fitV S (-1)) j (v + 1) (a + 0) by show cnA (fitV S (-1)) j (v + 1) (a + (if fitV S (-1) v = true then 1 else 0)) = _; rw [if_neg (by show ¬ (decide (0 < v % 10) && _) = true; rw [decide_eq_false (by omega)]; exact fun z => Bool.noConfusion z)]]
        exact l_Mo_span hi hrp j (v + 1) _ (by omega) (by omega)
      · refine z_al0 (pc' := 66) 40 rfl rfl ?_
        refine z_il3 (pc' := 67) 41 rfl rfl ?_
        refine z_bipush (v := nI 10) (by decide) (pc' := 69) 42 rfl rfl ?_
        refine z_idiv (by decide) (pc' := 70) 43 rfl rfl ?_
        rw [pk_div (by omega) (by decide) (by decide)]
        refine z_il3 (pc' := 71) 44 rfl rfl ?_
        refine z_bipush (v := nI 10) (by decide) (pc' := 73) 45 rfl rfl ?_
        refine z_irem (by decide) (pc' := 74) 46 rfl rfl ?_
        rw [pk_rem (by omega) (by decide) (by decide)]
        refine z_iconst (v := (-1)) (by decide) (pc' := 75) 47 rfl rfl ?_
        refine z_callV1 (pc' := 78) 48 rfl rfl k_Mo_294 (by first | exact pm_f | exact pm_1 | (rw [pm_o (by decide)]; assumption)) (c_Mo_fits hi hrp (by omega) (by omega) _) (by decide) (Nat.le_refl _) (Nat.le_refl _) rfl rfl (Nat.le_of_ble_eq_true rfl) ?_
        first | refine z_if_eqB (pc' := 81) 49 rfl rfl (tgt := 85) rfl (fun h78 => ?_) (fun h78 => ?_) | refine z_if_eqN (pc' := 81) 49 rfl rfl (tgt := 85) rfl (by omega) (fun h78 => ?_) (fun h78 => ?_) | refine z_if_eq (pc' := 81) 49 rfl rfl (tgt := 85) rfl (fun h78 => ?_) (fun h78 => ?_)
        · refine z_iconst (v := nI 0) (by decide) (pc' := 86) 52 rfl rfl ?_
          first | refine z_iaddN (pc' := 87) 53 rfl rfl ?_ | refine z_iadd (pc' := 87) 53 rfl rfl ?_
          refine z_is2 rfl rfl (pc' := 88) 54 rfl rfl ?_
          first | refine z_inc3N rfl rfl (pc' := 91) 55 rfl rfl ?_ | refine z_inc3 rfl rfl rfl (pc' := 91) 55 rfl rfl ?_
          refine z_goto 56 rfl (tgt := 51) rfl ?_
          rw [show cnA (fitV S (-1)) (j + 1) v a = cnA (fitV S (-1)) j (v + 1) (a + 0) by show cnA (fitV S (-1)) j (v + 1) (a + (if fitV S (-1) v = true then 1 else 0)) = _; rw [if_neg (by show ¬ (decide (0 < v % 10) && _) = true; rw [decide_eq_true (by omega), Bool.true_and]; exact h78)]]
          exact l_Mo_span hi hrp j (v + 1) _ (by omega) (by omega)
        · refine z_iconst (v := nI 1) (by decide) (pc' := 82) 50 rfl rfl ?_
          refine z_goto 51 rfl (tgt := 86) rfl ?_
          first | refine z_iaddN (pc' := 87) 53 rfl rfl ?_ | refine z_iadd (pc' := 87) 53 rfl rfl ?_
          refine z_is2 rfl rfl (pc' := 88) 54 rfl rfl ?_
          first | refine z_inc3N rfl rfl (pc' := 91) 55 rfl rfl ?_ | refine z_inc3 rfl rfl rfl (pc' := 91) 55 rfl rfl ?_
          refine z_goto 56 rfl (tgt := 51) rfl ?_
          rw [show cnA (fitV S (-1)) (j + 1) v a = cnA (fitV S (-1)) j (v + 1) (a + 1) by show cnA (fitV S (-1)) j (v + 1) (a + (if fitV S (-1) v = true then 1 else 0)) = _; rw [if_pos (by show (decide (0 < v % 10) && _) = true; rw [decide_eq_true (by omega), Bool.true_and]; exact h78)]]
          exact l_Mo_span hi hrp j (v + 1) _ (by omega) (by omega)
theorem stJ_ge {f : Nat} (h : f ≤ 80) : 0 ≤ stJ f ↔ f ≠ 80 := by
  unfold stJ
  split
  · rename_i e; exact ⟨fun z => absurd z (by decide), fun z => absurd e z⟩
  · rename_i e; exact ⟨fun _ => e, fun _ => nI_pos' (by omega)⟩
theorem stJ_n {f : Nat} (h : f ≠ 80) : stJ f = nI f := if_neg h
set_option maxHeartbeats 4000000 in
set_option maxRecDepth 100000 in
theorem c_Mo_span {G : zG} {n u : Nat} {μ : Nat → va_E} {κ : zκ} {s : Nat → Int32} (h : mst μ s κ) (hrp : iRp κ.1) (x : Int32) :
    zMet G 4 M_Mo_span [.ref 88, .int x] n u μ n u (mK μ s (f_span κ x, κ)) := by
  obtain ⟨S, mo, pr, fa, sc, ch, rc, D⟩ := κ
  have hst := h
  have hrp : iRp S := hrp
  obtain ⟨⟨ρ, h1, hD⟩, h2, ⟨q93, h93⟩, ⟨q91, h91⟩, ⟨q94, h94⟩, ⟨q95, h95⟩, ⟨q96, h96⟩, ⟨q97, h97⟩, h5⟩ := h
  have hk5 := h5
  obtain ⟨hi, hx, hmo, hrc⟩ := h5
  have hi0 := hi.1
  have hi1 := hi.2.1
  have hi2 := hi.2.2.1
  have hi3 := hi.2.2.2.2.1
  refine z_start (lv := [.ref 88, .int x, .retAddr 0, .retAddr 0]) K_Mo_span rfl rfl (Nat.le_refl _) (Nat.le_refl _) (Nat.le_of_ble_eq_true rfl) rfl ?_
  refine z_mu (pm_id h2 h1).symm ?_
  refine z_il1 (pc' := 1) 0 rfl rfl ?_
  refine z_iconst (v := nI 0) (by decide) (pc' := 2) 1 rfl rfl ?_
  refine z_iconst (v := nI 2) (by decide) (pc' := 3) 2 rfl rfl ?_
  refine z_callS1 (pc' := 6) 3 rfl rfl k_Mo_67 (c_Mo_in _ _ _) (by decide) (Nat.le_refl _) (Nat.le_refl _) rfl rfl (Nat.le_of_ble_eq_true rfl) ?_
  first | refine z_if_neB (pc' := 9) 4 rfl rfl (tgt := 11) rfl (fun h6 => ?_) (fun h6 => ?_) | refine z_if_neN (pc' := 9) 4 rfl rfl (tgt := 11) rfl (by omega) (fun h6 => ?_) (fun h6 => ?_) | refine z_if_ne (pc' := 9) 4 rfl rfl (tgt := 11) rfl (fun h6 => ?_) (fun h6 => ?_)
  · refine z_il1 (pc' := 12) 7 rfl rfl ?_
    first | refine z_if_le (pc' := 15) 8 rfl rfl (tgt := 47) rfl (fun h12 => ?_) (fun h12 => ?_)
    · refine z_iconst (v := nI 0) (by decide) (pc' := 48) 28 rfl rfl ?_
      refine z_is2 rfl rfl (pc' := 49) 29 rfl rfl ?_
      refine z_iconst (v := nI 0) (by decide) (pc' := 50) 30 rfl rfl ?_
      refine z_is3 rfl rfl (pc' := 51) 31 rfl rfl ?_
      refine zW_dm (show 3 ≤ 4 by decide) ?_
      refine zW_to (l_Mo_span hi hrp 80 0 0 (by omega) (by omega)) ?_
      have hx0 : x = nI 0 := Int32.le_antisymm h12 h6.1
      show mK μ s _ _ _; rw [f_span, if_pos h6, if_pos hx0]; exact mK_of hst (sEq_r) hD (hk5)
    · obtain ⟨c1, c2, c3⟩ := cn_fs (F := fitV S (-1)) 80 0 0
      have c5 : ffS S (-1) ≤ 80 := by show fsA _ _ _ ≤ 80; omega
      have hx0 : ¬ x = nI 0 := fun z => h12 (by rw [z]; decide)
      refine z_al0 (pc' := 16) 9 rfl rfl ?_
      refine z_iconst (v := (-1)) (by decide) (pc' := 17) 10 rfl rfl ?_
      refine z_callV1 (pc' := 20) 11 rfl rfl k_Mo_297 (by first | exact pm_f | exact pm_1 | (rw [pm_o (by decide)]; assumption)) (c_Mo_strange hi hrp _) (by decide) (Nat.le_refl _) (Nat.le_refl _) rfl rfl (Nat.le_of_ble_eq_true rfl) ?_
      refine z_is2 rfl rfl (pc' := 21) 12 rfl rfl ?_
      refine z_il2 (pc' := 22) 13 rfl rfl ?_
      first | refine z_if_ge (pc' := 25) 14 rfl rfl (tgt := 30) rfl (fun h22 => ?_) (fun h22 => ?_)
      · have hne : ffS S (-1) ≠ 80 := (stJ_ge (by omega)).mp h22
        rw [stJ_n hne]
        refine z_il1 (pc' := 31) 17 rfl rfl ?_
        refine z_iconst (v := nI 1) (by decide) (pc' := 32) 18 rfl rfl ?_
        first | refine z_icmp_ne (pc' := 35) 19 rfl rfl (tgt := 42) rfl (fun h32 => ?_) (fun h32 => ?_)
        · refine z_il2 (pc' := 43) 24 rfl rfl ?_
          refine z_bipush (v := nI 10) (by decide) (pc' := 45) 25 rfl rfl ?_
          refine z_irem (by decide) (pc' := 46) 26 rfl rfl ?_
          rw [pk_rem (by omega) (by decide) (by decide)]
          exact z_ireturn 27 rfl rfl (by first | rfl | exact zbo_nar) rfl rfl (by show mK μ s _ _ _; rw [f_span, if_pos h6, if_neg hx0, if_neg hne, if_neg h32]; exact mK_of hst (sEq_r) hD (hk5))
        · refine z_il2 (pc' := 36) 20 rfl rfl ?_
          refine z_bipush (v := nI 10) (by decide) (pc' := 38) 21 rfl rfl ?_
          refine z_idiv (by decide) (pc' := 39) 22 rfl rfl ?_
          rw [pk_div (by omega) (by decide) (by decide)]
          refine z_goto 23 rfl (tgt := 46) rfl ?_
          exact z_ireturn 27 rfl rfl (by first | rfl | exact zbo_nar) rfl rfl (by show mK μ s _ _ _; rw [f_span, if_pos h6, if_neg hx0, if_neg hne, if_pos h32]; exact mK_of hst (sEq_r) hD (hk5))
      · refine z_bipush (v := (-3)) (by decide) (pc' := 27) 15 rfl rfl ?_
        refine z_goto 16 rfl (tgt := 46) rfl ?_
        exact z_ireturn 27 rfl rfl (by first | rfl | exact zbo_nar) rfl rfl (by show mK μ s _ _ _; rw [f_span, if_pos h6, if_neg hx0, if_pos (Classical.byContradiction (fun z => h22 ((stJ_ge (by omega)).mpr z)))]; exact mK_of hst (sEq_r) hD (hk5))
  · refine z_iconst (v := (-1)) (by decide) (pc' := 10) 5 rfl rfl ?_
    exact z_ireturn 6 rfl rfl (by first | rfl | exact zbo_nar) rfl rfl (by show mK μ s _ _ _; rw [f_span, if_neg h6]; exact mK_of hst (sEq_r) hD (hk5))
set_option maxHeartbeats 4000000 in
set_option maxRecDepth 100000 in
theorem l_Mo_liar {G : zG} {n u : Nat} {ν : Nat → va_E} {s : Nat → Int32} {S : Nat → Nat → Nat} {mo : Nat} {pr fa : Nat → Nat} {sc ch : Int32} {rc : Nat} {ρ : Nat → Int32} (hi : iS S) (hrp : iRp S) : ∀ j r, r + j = S 0 2 → zW G 3 M_Mo_liar 13 [.ref 88, .int (nI r)] [] n u (pm ν s (mk S mo pr fa sc ch rc ρ)) n u (zE (some (.int (lrA S j r))) (pm ν s (mk S mo pr fa sc ch rc ρ)))
  | 0, r, e => by
    have hi2 := hi.2.2.1
    refine z_il1 (pc' := 14) 8 rfl rfl ?_
    refine z_al0 (pc' := 15) 9 rfl rfl ?_
    refine z_getf (pc' := 18) 10 rfl rfl f_Mo_9_12 (by first | exact pm_f | exact pm_1 | (rw [pm_o (by decide)]; assumption)) (by rfl) ?_
    refine z_bipush (v := nI 6) (by decide) (pc' := 20) 11 rfl rfl ?_
    refine z_iald (pc' := 21) 12 rfl rfl (by first | exact pm_f | exact pm_1 | (rw [pm_o (by decide)]; assumption)) (by omega) (by decide) ?_
    rw [mk_6]
    first | refine z_icmp_geN (pc' := 24) 13 rfl rfl (tgt := 40) rfl (by omega) (by omega) (fun h21 => ?_) (fun h21 => ?_) | refine z_icmp_ge (pc' := 24) 13 rfl rfl (tgt := 40) rfl (fun h21 => ?_) (fun h21 => ?_)
    · refine z_bipush (v := (-3)) (by decide) (pc' := 42) 22 rfl rfl ?_
      exact z_ireturn 23 rfl rfl (by first | rfl | exact zbo_nar) rfl rfl (by exact ⟨rfl, rfl⟩)
    · exfalso; omega
  | j + 1, r, e => by
    have hi2 := hi.2.2.1
    obtain ⟨c1, c2, c3⟩ := cn_fs (F := fitV S (nI r)) 80 0 0
    have hge := stJ_ge (f := ffS S (nI r)) (by omega)
    refine z_il1 (pc' := 14) 8 rfl rfl ?_
    refine z_al0 (pc' := 15) 9 rfl rfl ?_
    refine z_getf (pc' := 18) 10 rfl rfl f_Mo_9_12 (by first | exact pm_f | exact pm_1 | (rw [pm_o (by decide)]; assumption)) (by rfl) ?_
    refine z_bipush (v := nI 6) (by decide) (pc' := 20) 11 rfl rfl ?_
    refine z_iald (pc' := 21) 12 rfl rfl (by first | exact pm_f | exact pm_1 | (rw [pm_o (by decide)]; assumption)) (by omega) (by decide) ?_
    rw [mk_6]
    first | refine z_icmp_geN (pc' := 24) 13 rfl rfl (tgt := 40) rfl (by omega) (by omega) (fun h21 => ?_) (fun h21 => ?_) | refine z_icmp_ge (pc' := 24) 13 rfl rfl (tgt := 40) rfl (fun h21 => ?_) (fun h21 => ?_)
    · exfalso; omega
    · refine z_al0 (pc' := 25) 14 rfl rfl ?_
      refine z_il1 (pc' := 26) 15 rfl rfl ?_
      refine z_callV1 (pc' := 29) 16 rfl rfl k_Mo_297 (by first | exact pm_f | exact pm_1 | (rw [pm_o (by decide)]; assumption)) (c_Mo_strange hi hrp _) (by decide) (Nat.le_refl _) (Nat.le_refl _) rfl rfl (Nat.le_of_ble_eq_true rfl) ?_
      first | refine z_if_lt (pc' := 32) 17 rfl rfl (tgt := 34) rfl (fun h29 => ?_) (fun h29 => ?_)
      · first | refine z_inc1N rfl rfl (pc' := 37) 20 rfl rfl ?_ | refine z_inc1 rfl rfl rfl (pc' := 37) 20 rfl rfl ?_
        refine z_goto 21 rfl (tgt := 13) rfl ?_
        rw [show lrA S (j + 1) r = lrA S j (r + 1) from if_pos (Classical.byContradiction (fun z => absurd h29 (Int32.not_lt.mpr (hge.mpr z))))]
        exact l_Mo_liar hi hrp j (r + 1) (by omega)
      · refine z_il1 (pc' := 33) 18 rfl rfl ?_
        exact z_ireturn 19 rfl rfl (by first | rfl | exact zbo_nar) rfl rfl (by exact ⟨by rw [show lrA S (j + 1) r = nI r from if_neg (fun z => (hge.mp (Int32.not_lt.mp h29)) z)], rfl⟩)
set_option maxHeartbeats 4000000 in
set_option maxRecDepth 100000 in
theorem c_Mo_liar {G : zG} {n u : Nat} {μ : Nat → va_E} {κ : zκ} {s : Nat → Int32} (h : mst μ s κ) (hrp : iRp κ.1) :
    zMet G 4 M_Mo_liar [.ref 88] n u μ n u (mK μ s (f_liar κ, κ)) := by
  obtain ⟨S, mo, pr, fa, sc, ch, rc, D⟩ := κ
  have hst := h
  have hrp : iRp S := hrp
  obtain ⟨⟨ρ, h1, hD⟩, h2, ⟨q93, h93⟩, ⟨q91, h91⟩, ⟨q94, h94⟩, ⟨q95, h95⟩, ⟨q96, h96⟩, ⟨q97, h97⟩, h5⟩ := h
  have hk5 := h5
  obtain ⟨hi, hx, hmo, hrc⟩ := h5
  have hi0 := hi.1
  have hi1 := hi.2.1
  have hi2 := hi.2.2.1
  have hi3 := hi.2.2.2.2.1
  refine z_start (lv := [.ref 88, .retAddr 0]) K_Mo_liar rfl rfl (Nat.le_refl _) (Nat.le_refl _) (Nat.le_of_ble_eq_true rfl) rfl ?_
  refine z_mu (pm_id h2 h1).symm ?_
  refine z_al0 (pc' := 1) 0 rfl rfl ?_
  refine z_iconst (v := (-1)) (by decide) (pc' := 2) 1 rfl rfl ?_
  refine z_callV1 (pc' := 5) 2 rfl rfl k_Mo_297 (by first | exact pm_f | exact pm_1 | (rw [pm_o (by decide)]; assumption)) (c_Mo_strange hi hrp _) (by decide) (Nat.le_refl _) (Nat.le_refl _) rfl rfl (Nat.le_of_ble_eq_true rfl) ?_
  obtain ⟨c1, c2, c3⟩ := cn_fs (F := fitV S (-1)) 80 0 0
  have c5 : ffS S (-1) ≤ 80 := by show fsA _ _ _ ≤ 80; omega
  have hge := stJ_ge (f := ffS S (-1)) (by omega)
  first | refine z_if_lt (pc' := 8) 3 rfl rfl (tgt := 11) rfl (fun h5 => ?_) (fun h5 => ?_)
  · refine z_iconst (v := nI 0) (by decide) (pc' := 12) 6 rfl rfl ?_
    refine z_is1 rfl rfl (pc' := 13) 7 rfl rfl ?_
    refine zW_dm (show 3 ≤ 4 by decide) ?_
    refine zW_to (l_Mo_liar hi hrp (S 0 2) 0 (Nat.zero_add _)) ?_
    show mK μ s _ _ _; rw [f_liar, if_pos (Classical.byContradiction (fun z => absurd h5 (Int32.not_lt.mpr (hge.mpr z))))]; exact mK_of hst (sEq_r) hD (hk5)
  · refine z_bipush (v := (-3)) (by decide) (pc' := 10) 4 rfl rfl ?_
    exact z_ireturn 5 rfl rfl (by first | rfl | exact zbo_nar) rfl rfl (by show mK μ s _ _ _; rw [f_liar, if_neg (hge.mp (Int32.not_lt.mp h5))]; exact mK_of hst (sEq_r) hD (hk5))
