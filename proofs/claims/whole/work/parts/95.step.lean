theorem and63 (x : Int32) : ∃ c, c ≤ 63 ∧ x &&& nI 63 = nI c := by
  refine ⟨(x.toBitVec &&& 63#32).toNat, ?_, ?_⟩
  · rw [BitVec.toNat_and]; exact Nat.and_le_right
  · rw [nI_bv]; rfl
set_option maxHeartbeats 4000000 in
set_option maxRecDepth 100000 in
theorem l_step {G : zG} {i : Nat} (hi : i + 5 ≤ zL G) (hL : zL G ≤ 2560) (A9 : zAll) {c : Nat} (hc : c ≤ 63) : ∃ (B9 : zAll) (g : Nat), g ≤ 1 ∧ ∀ (n u nF uF : Nat) (μ : Nat → va_E) (Φ : zP), Inv μ n A9 → n + g ≤ nF → u + 5 * g ≤ uF → (∀ μ', Inv μ' (n + g) B9 → zW G 19 M_Lw_law 1789 [.ref 2, .ref 4, .ref 88, .int (nI i)] [] (n + g) (u + 5 * g) μ' nF uF Φ) → zW G 19 M_Lw_law 32 [.ref 2, .ref 4, .ref 88, .int (nI i)] [.int (nI c)] n u μ nF uF Φ := by
  obtain ⟨⟨κ, κ', kf⟩, τ, σ, ⟨R, rw⟩, ⟨b, ln, tk⟩, ⟨tc, tr⟩⟩ := A9
  rcases (show c = 0 ∨ c = 1 ∨ c = 2 ∨ c = 3 ∨ c = 4 ∨ c = 5 ∨ c = 6 ∨ c = 7 ∨ c = 8 ∨ c = 9 ∨ c = 10 ∨ c = 11 ∨ c = 12 ∨ c = 13 ∨ c = 14 ∨ c = 15 ∨ c = 16 ∨ c = 17 ∨ c = 18 ∨ c = 19 ∨ c = 20 ∨ c = 21 ∨ c = 22 ∨ c = 23 ∨ c = 24 ∨ c = 25 ∨ c = 26 ∨ c = 27 ∨ c = 28 ∨ c = 29 ∨ c = 30 ∨ c = 31 ∨ c = 32 ∨ c = 33 ∨ c = 34 ∨ c = 35 ∨ c = 36 ∨ c = 37 ∨ c = 38 ∨ c = 39 ∨ c = 40 ∨ c = 41 ∨ c = 42 ∨ c = 43 ∨ c = 44 ∨ c = 45 ∨ c = 46 ∨ c = 47 ∨ c = 48 ∨ c = 49 ∨ c = 50 ∨ c = 51 ∨ c = 52 ∨ 52 < c by omega) with h9 | h9 | h9 | h9 | h9 | h9 | h9 | h9 | h9 | h9 | h9 | h9 | h9 | h9 | h9 | h9 | h9 | h9 | h9 | h9 | h9 | h9 | h9 | h9 | h9 | h9 | h9 | h9 | h9 | h9 | h9 | h9 | h9 | h9 | h9 | h9 | h9 | h9 | h9 | h9 | h9 | h9 | h9 | h9 | h9 | h9 | h9 | h9 | h9 | h9 | h9 | h9 | h9 | h9
  · subst h9
    exact ⟨_, 0, Nat.zero_le _, fun n u nF uF μ Φ hI hn hu K => z_tableIn 21 rfl (by decide) (by decide) (off := 228) rfl (tgt := 260) rfl (w_girl hI hi hL hn hu K)⟩
  · subst h9
    exact ⟨_, 0, Nat.zero_le _, fun n u nF uF μ Φ hI hn hu K => z_tableIn 21 rfl (by decide) (by decide) (off := 271) rfl (tgt := 303) rfl (w_girlOf hI hi hL hn hu K)⟩
  · subst h9
    exact ⟨_, 0, Nat.zero_le _, fun n u nF uF μ Φ hI hn hu K => z_tableIn 21 rfl (by decide) (by decide) (off := 304) rfl (tgt := 336) rfl (w_change hI hi hL hn hu K)⟩
  · subst h9
    exact ⟨_, 0, Nat.zero_le _, fun n u nF uF μ Φ hI hn hu K => z_tableIn 21 rfl (by decide) (by decide) (off := 347) rfl (tgt := 379) rfl (w_remake hI hi hL hn hu K)⟩
  · subst h9
    exact ⟨_, 0, Nat.zero_le _, fun n u nF uF μ Φ hI hn hu K => z_tableIn 21 rfl (by decide) (by decide) (off := 380) rfl (tgt := 412) rfl (w_wind hI hi hL hn hu K)⟩
  · subst h9
    exact ⟨_, 0, Nat.zero_le _, fun n u nF uF μ Φ hI hn hu K => z_tableIn 21 rfl (by decide) (by decide) (off := 433) rfl (tgt := 465) rfl (w_windOf hI hi hL hn hu K)⟩
  · subst h9
    exact ⟨_, 0, Nat.zero_le _, fun n u nF uF μ Φ hI hn hu K => z_tableIn 21 rfl (by decide) (by decide) (off := 466) rfl (tgt := 498) rfl (w_promise hI hi hL hn hu K)⟩
  · subst h9
    exact ⟨_, 0, Nat.zero_le _, fun n u nF uF μ Φ hI hn hu K => z_tableIn 21 rfl (by decide) (by decide) (off := 499) rfl (tgt := 531) rfl (w_gain hI hi hL hn hu K)⟩
  · subst h9
    exact ⟨_, 0, Nat.zero_le _, fun n u nF uF μ Φ hI hn hu K => z_tableIn 21 rfl (by decide) (by decide) (off := 542) rfl (tgt := 574) rfl (w_ends hI hi hL hn hu K)⟩
  · subst h9
    exact ⟨_, 0, Nat.zero_le _, fun n u nF uF μ Φ hI hn hu K => z_tableIn 21 rfl (by decide) (by decide) (off := 565) rfl (tgt := 597) rfl (w_anew hI hi hL hn hu K)⟩
  · subst h9
    exact ⟨_, 0, Nat.zero_le _, fun n u nF uF μ Φ hI hn hu K => z_tableIn 21 rfl (by decide) (by decide) (off := 578) rfl (tgt := 610) rfl (w_state hI hi hL hn hu K)⟩
  · subst h9
    exact ⟨_, 0, Nat.zero_le _, fun n u nF uF μ Φ hI hn hu K => z_tableIn 21 rfl (by decide) (by decide) (off := 601) rfl (tgt := 633) rfl (w_feed hI hi hL hn hu K)⟩
  · subst h9
    exact ⟨_, 0, Nat.zero_le _, fun n u nF uF μ Φ hI hn hu K => z_tableIn 21 rfl (by decide) (by decide) (off := 664) rfl (tgt := 696) rfl (w_rules hI hi hL hn hu K)⟩
  · subst h9
    exact ⟨_, 0, Nat.zero_le _, fun n u nF uF μ Φ hI hn hu K => z_tableIn 21 rfl (by decide) (by decide) (off := 677) rfl (tgt := 709) rfl (w_month hI hi hL hn hu K)⟩
  · subst h9
    exact ⟨_, 0, Nat.zero_le _, fun n u nF uF μ Φ hI hn hu K => z_tableIn 21 rfl (by decide) (by decide) (off := 690) rfl (tgt := 722) rfl (w_on hI hi hL hn hu K)⟩
  · subst h9
    exact ⟨_, 0, Nat.zero_le _, fun n u nF uF μ Φ hI hn hu K => z_tableIn 21 rfl (by decide) (by decide) (off := 713) rfl (tgt := 745) rfl (w_courted hI hi hL hn hu K)⟩
  · subst h9
    exact ⟨_, 0, Nat.zero_le _, fun n u nF uF μ Φ hI hn hu K => z_tableIn 21 rfl (by decide) (by decide) (off := 736) rfl (tgt := 768) rfl (w_breaks hI hi hL hn hu K)⟩
  · subst h9
    exact ⟨_, 0, Nat.zero_le _, fun n u nF uF μ Φ hI hn hu K => z_tableIn 21 rfl (by decide) (by decide) (off := 759) rfl (tgt := 791) rfl (w_windFor hI hi hL hn hu K)⟩
  · subst h9
    exact ⟨_, 0, Nat.zero_le _, fun n u nF uF μ Φ hI hn hu K => z_tableIn 21 rfl (by decide) (by decide) (off := 782) rfl (tgt := 814) rfl (w_dowryFor hI hi hL hn hu K)⟩
  · subst h9
    exact ⟨_, 0, Nat.zero_le _, fun n u nF uF μ Φ hI hn hu K => z_tableIn 21 rfl (by decide) (by decide) (off := 805) rfl (tgt := 837) rfl (w_leave hI hi hL hn hu K)⟩
  · subst h9
    exact ⟨_, 0, Nat.zero_le _, fun n u nF uF μ Φ hI hn hu K => z_tableIn 21 rfl (by decide) (by decide) (off := 818) rfl (tgt := 850) rfl (w_first hI hi hL hn hu K)⟩
  · subst h9
    exact ⟨_, 0, Nat.zero_le _, fun n u nF uF μ Φ hI hn hu K => z_tableIn 21 rfl (by decide) (by decide) (off := 831) rfl (tgt := 863) rfl (w_kept hI hi hL hn hu K)⟩
  · subst h9
    exact ⟨_, 0, Nat.zero_le _, fun n u nF uF μ Φ hI hn hu K => z_tableIn 21 rfl (by decide) (by decide) (off := 854) rfl (tgt := 886) rfl (w_ring hI hi hL hn hu K)⟩
  · subst h9
    exact ⟨_, 0, Nat.zero_le _, fun n u nF uF μ Φ hI hn hu K => z_tableIn 21 rfl (by decide) (by decide) (off := 877) rfl (tgt := 909) rfl (w_best hI hi hL hn hu K)⟩
  · subst h9
    exact ⟨_, 0, Nat.zero_le _, fun n u nF uF μ Φ hI hn hu K => z_tableIn 21 rfl (by decide) (by decide) (off := 900) rfl (tgt := 932) rfl (w_ith hI hi hL hn hu K)⟩
  · subst h9
    exact ⟨_, 0, Nat.zero_le _, fun n u nF uF μ Φ hI hn hu K => z_tableIn 21 rfl (by decide) (by decide) (off := 933) rfl (tgt := 965) rfl (w_ways hI hi hL hn hu K)⟩
  · subst h9
    exact ⟨_, 0, Nat.zero_le _, fun n u nF uF μ Φ hI hn hu K => z_tableIn 21 rfl (by decide) (by decide) (off := 956) rfl (tgt := 988) rfl (w_bound hI hi hL hn hu K)⟩
  · subst h9
    exact ⟨_, 0, Nat.zero_le _, fun n u nF uF μ Φ hI hn hu K => z_tableIn 21 rfl (by decide) (by decide) (off := 989) rfl (tgt := 1021) rfl (w_bars hI hi hL hn hu K)⟩
  · subst h9
    exact ⟨_, 0, Nat.zero_le _, fun n u nF uF μ Φ hI hn hu K => z_tableIn 21 rfl (by decide) (by decide) (off := 1022) rfl (tgt := 1054) rfl (w_game hI hi hL hn hu K)⟩
  · subst h9
    exact ⟨_, 0, Nat.zero_le _, fun n u nF uF μ Φ hI hn hu K => z_tableIn 21 rfl (by decide) (by decide) (off := 1045) rfl (tgt := 1077) rfl (w_play hI hi hL hn hu K)⟩
  · subst h9
    exact ⟨_, 0, Nat.zero_le _, fun n u nF uF μ Φ hI hn hu K => z_tableIn 21 rfl (by decide) (by decide) (off := 1068) rfl (tgt := 1100) rfl (w_report hI hi hL hn hu K)⟩
  · subst h9
    exact ⟨_, 0, Nat.zero_le _, fun n u nF uF μ Φ hI hn hu K => z_tableIn 21 rfl (by decide) (by decide) (off := 1121) rfl (tgt := 1153) rfl (w_forget hI hi hL hn hu K)⟩
  · subst h9
    exact ⟨_, 0, Nat.zero_le _, fun n u nF uF μ Φ hI hn hu K => z_tableIn 21 rfl (by decide) (by decide) (off := 1134) rfl (tgt := 1166) rfl (w_span hI hi hL hn hu K)⟩
  · subst h9
    exact ⟨_, 0, Nat.zero_le _, fun n u nF uF μ Φ hI hn hu K => z_tableIn 21 rfl (by decide) (by decide) (off := 1157) rfl (tgt := 1189) rfl (w_liar hI hi hL hn hu K)⟩
  · subst h9
    exact ⟨_, 0, Nat.zero_le _, fun n u nF uF μ Φ hI hn hu K => z_tableIn 21 rfl (by decide) (by decide) (off := 1170) rfl (tgt := 1202) rfl (w_seed hI hi hL hn hu K)⟩
  · subst h9
    exact ⟨_, 0, Nat.zero_le _, fun n u nF uF μ Φ hI hn hu K => z_tableIn 21 rfl (by decide) (by decide) (off := 1193) rfl (tgt := 1225) rfl (w_lot hI hi hL hn hu K)⟩
  · subst h9
    exact ⟨_, 0, Nat.zero_le _, fun n u nF uF μ Φ hI hn hu K => z_tableIn 21 rfl (by decide) (by decide) (off := 1206) rfl (tgt := 1238) rfl (w_often hI hi hL hn hu K)⟩
  · subst h9
    exact ⟨_, 0, Nat.zero_le _, fun n u nF uF μ Φ hI hn hu K => z_tableIn 21 rfl (by decide) (by decide) (off := 1239) rfl (tgt := 1271) rfl (w_prove hI hi hL hn hu K)⟩
  · subst h9
    exact ⟨_, 0, Nat.zero_le _, fun n u nF uF μ Φ hI hn hu K => z_tableIn 21 rfl (by decide) (by decide) (off := 1262) rfl (tgt := 1294) rfl (w_row hI hi hL hn hu K)⟩
  · subst h9
    exact ⟨_, 0, Nat.zero_le _, fun n u nF uF μ Φ hI hn hu K => z_tableIn 21 rfl (by decide) (by decide) (off := 1295) rfl (tgt := 1327) rfl (w_alterRow hI hi hL hn hu K)⟩
  · subst h9
    exact ⟨_, 0, Nat.zero_le _, fun n u nF uF μ Φ hI hn hu K => z_tableIn 21 rfl (by decide) (by decide) (off := 1338) rfl (tgt := 1370) rfl (w_judge hI hi hL hn hu K)⟩
  · subst h9
    exact ⟨_, 0, Nat.zero_le _, fun n u nF uF μ Φ hI hn hu K => z_tableIn 21 rfl (by decide) (by decide) (off := 1351) rfl (tgt := 1383) rfl (w_sheet hI hi hL hn hu K)⟩
  · subst h9
    exact ⟨_, 0, Nat.zero_le _, fun n u nF uF μ Φ hI hn hu K => z_tableIn 21 rfl (by decide) (by decide) (off := 1394) rfl (tgt := 1426) rfl (w_write hI hi hL hn hu K)⟩
  · subst h9
    exact ⟨_, 0, Nat.zero_le _, fun n u nF uF μ Φ hI hn hu K => z_tableIn 21 rfl (by decide) (by decide) (off := 1437) rfl (tgt := 1469) rfl (w_item hI hi hL hn hu K)⟩
  · subst h9
    exact ⟨_, 0, Nat.zero_le _, fun n u nF uF μ Φ hI hn hu K => z_tableIn 21 rfl (by decide) (by decide) (off := 1480) rfl (tgt := 1512) rfl (w_goAll hI hi hL hn hu K)⟩
  · subst h9
    exact ⟨_, 0, Nat.zero_le _, fun n u nF uF μ Φ hI hn hu K => z_tableIn 21 rfl (by decide) (by decide) (off := 1523) rfl (tgt := 1555) rfl (w_wouldBe hI hi hL hn hu K)⟩
  · subst h9
    exact ⟨_, 0, Nat.zero_le _, fun n u nF uF μ Φ hI hn hu K => z_tableIn 21 rfl (by decide) (by decide) (off := 1566) rfl (tgt := 1598) rfl (w_shelf hI hi hL hn hu K)⟩
  · subst h9
    exact ⟨_, 0, Nat.zero_le _, fun n u nF uF μ Φ hI hn hu K => z_tableIn 21 rfl (by decide) (by decide) (off := 1609) rfl (tgt := 1641) rfl (w_taken hI hi hL hn hu K)⟩
  · subst h9
    by_cases hac : acC κ.1 σ (zX G (i + 1)) (zX G (i + 2))
    · exact ⟨_, 1, Nat.le_refl _, fun n u nF uF μ Φ hI hn hu K => z_tableIn 21 rfl (by decide) (by decide) (off := 1642) rfl (tgt := 1674) rfl (w_act1 hac (iA_ac (show iA (0, false, tr) from Nat.zero_le _)) hI hi hL hn hu K)⟩
    · exact ⟨_, 0, Nat.zero_le _, fun n u nF uF μ Φ hI hn hu K => z_tableIn 21 rfl (by decide) (by decide) (off := 1642) rfl (tgt := 1674) rfl (w_act0 hac hI hi hL hn hu K)⟩
  · subst h9
    exact ⟨_, 0, Nat.zero_le _, fun n u nF uF μ Φ hI hn hu K => z_tableIn 21 rfl (by decide) (by decide) (off := 1685) rfl (tgt := 1717) rfl (w_trace hI hi hL hn hu K)⟩
  · subst h9
    exact ⟨_, 0, Nat.zero_le _, fun n u nF uF μ Φ hI hn hu K => z_tableIn 21 rfl (by decide) (by decide) (off := 1708) rfl (tgt := 1740) rfl (w_many hI hi hL hn hu K)⟩
  · subst h9
    exact ⟨_, 0, Nat.zero_le _, fun n u nF uF μ Φ hI hn hu K => z_tableIn 21 rfl (by decide) (by decide) (off := 1731) rfl (tgt := 1763) rfl (w_keep hI hi hL hn hu K)⟩
  · subst h9
    exact ⟨_, 0, Nat.zero_le _, fun n u nF uF μ Φ hI hn hu K => z_tableIn 21 rfl (by decide) (by decide) (off := 1744) rfl (tgt := 1776) rfl (w_again hI hi hL hn hu K)⟩
  · exact ⟨_, 0, Nat.zero_le _, fun n u nF uF μ Φ hI hn hu K => z_tableOut 21 rfl (Or.inr (by rw [nI_toInt (by omega)]; omega)) (tgt := 1789) rfl (K μ hI)⟩
theorem gt5 {L i : Nat} (hL : L ≤ 2560) (hi : i ≤ 3000) : nI L - nI 5 < nI i ↔ L < i + 5 := by
  rw [Int32.lt_iff_toInt_lt, Int32.toInt_sub, nI_toInt (by omega), nI_toInt (by omega), nI_toInt (by omega), Int.bmod_eq_of_le (by omega) (by omega)]
  omega
set_option maxHeartbeats 4000000 in
set_option maxRecDepth 100000 in
theorem l_law {G : zG} (hL : zL G ≤ 2560) : ∀ (j i : Nat) (A9 : zAll), i + 5 * j ≤ zL G → zL G < i + 5 * j + 5 → ∃ al, al ≤ j ∧ ∀ (n u : Nat) (μ : Nat → va_E), Inv μ n A9 → zW G 19 M_Lw_law 18 [.ref 2, .ref 4, .ref 88, .int (nI i)] [] n u μ (n + al) (u + 5 * al) (fun r _ => r = some (.int (nI 1)))
  | 0, i, A9, h1, h2 => by
    refine ⟨0, Nat.le_refl _, fun n u μ hI => ?_⟩
    refine z_spec (fun hs => ?_)
    have m2 := hs 2 (by decide)
    refine z_il3 (pc' := 19) 10 rfl rfl ?_
    refine z_al0 (pc' := 20) 11 rfl rfl ?_
    refine z_alen7 (pc' := 21) 12 rfl rfl (by decide) (by exact m2) ?_
    refine z_iconst (v := nI 5) (by decide) (pc' := 22) 13 rfl rfl ?_
    refine z_isub (pc' := 23) 14 rfl rfl ?_
    refine z_icmp_gt_t 15 rfl (tgt := 1795) rfl ((gt5 hL (by omega)).mpr (by omega)) ?_
    refine z_iconst (v := nI 1) (by decide) (pc' := 1796) 1229 rfl rfl ?_
    exact z_ireturn 1230 rfl rfl (by first | rfl | exact zbo_nar) rfl rfl (by exact rfl)
  | j + 1, i, A9, h1, h2 => by
    obtain ⟨c, hc, ec⟩ := and63 (zX G i)
    obtain ⟨B9, g, hg, hstep⟩ := l_step (G := G) (i := i) (by omega) hL A9 hc
    obtain ⟨al, hal, hrest⟩ := l_law hL j (i + 5) B9 (by omega) (by omega)
    refine ⟨g + al, by omega, fun n u μ hI => ?_⟩
    refine z_spec (fun hs => ?_)
    have m2 := hs 2 (by decide)
    refine z_il3 (pc' := 19) 10 rfl rfl ?_
    refine z_al0 (pc' := 20) 11 rfl rfl ?_
    refine z_alen7 (pc' := 21) 12 rfl rfl (by decide) (by exact m2) ?_
    refine z_iconst (v := nI 5) (by decide) (pc' := 22) 13 rfl rfl ?_
    refine z_isub (pc' := 23) 14 rfl rfl ?_
    refine z_icmp_gt_f (pc' := 26) 15 rfl rfl (tgt := 1795) rfl (fun z => by have := (gt5 hL (by omega)).mp z; omega) ?_
    refine z_al0 (pc' := 27) 16 rfl rfl ?_
    refine z_il3 (pc' := 28) 17 rfl rfl ?_
    refine z_iald7 (pc' := 29) 18 rfl rfl (by decide) (by exact m2) (by omega) (by omega) ?_
    refine z_bipush (v := nI 63) (by decide) (pc' := 31) 19 rfl rfl ?_
    refine z_iand (pc' := 32) 20 rfl rfl ?_
    refine z_te ec ?_
    refine hstep n u (n + (g + al)) (u + 5 * (g + al)) μ _ hI (by omega) (by omega) (fun μ' hI' => ?_)
    have K := hrest (n + g) (u + 5 * g) μ' hI'
    rw [show n + g + al = n + (g + al) by omega, show u + 5 * g + 5 * al = u + 5 * (g + al) by omega] at K
    refine z_inc3 rfl rfl (nI_inc _ 5) (pc' := 1792) 1227 rfl rfl ?_
    refine z_goto 1228 rfl (tgt := 18) rfl ?_
    exact K
