/-- a would gain more by b's wind than by her own -/
def swB (S : Nat → Nat → Nat) (t : Nat) (pr : Nat → Nat) (a b : Nat) : Bool := decide (pr a ≠ 6) && (decide (pr b ≠ 6) && decide (gS S a (pr a) t < gS S a (pr b) t))
theorem swB_i {S : Nat → Nat → Nat} {t : Nat} {pr : Nat → Nat} {a b : Nat} : swB S t pr a b = true ↔ (pr a ≠ 6 ∧ pr b ≠ 6 ∧ gS S a (pr a) t < gS S a (pr b) t) := by
  simp [swB]
def enA (S : Nat → Nat → Nat) (t : Nat) (pr : Nat → Nat) (a : Nat) : Nat → Nat → Nat → Nat
  | 0, _, c => c
  | j + 1, b, c => enA S t pr a j (b + 1) (if swB S t pr a b = true then c ||| 2 ^ b else c)
def nxA (S : Nat → Nat → Nat) (t : Nat) (pr : Nat → Nat) (L : Nat) : Nat → Nat → Nat → Nat
  | 0, _, c => c
  | j + 1, a, c => nxA S t pr L j (a + 1) (if L / 2 ^ a % 2 = 1 then c ||| enA S t pr a (S 0 0) 0 0 else c)
def rgL (S : Nat → Nat → Nat) (t : Nat) (pr : Nat → Nat) (g : Nat) : Nat → Nat
  | 0 => 2 ^ g
  | n + 1 => nxA S t pr (rgL S t pr g n) (S 0 0) 0 0
def rgN (S : Nat → Nat → Nat) (t : Nat) (pr : Nat → Nat) (g : Nat) : Nat → Nat → Int32
  | 0, _ => -3
  | j + 1, n => if rgL S t pr g (n + 1) / 2 ^ g % 2 = 1 then nI (n + 1) else rgN S t pr g j (n + 1)
def f_ring : zκ → Int32 → Int32 × zκ
  | (S, mo, pr, fa, sc, ch, rc, D), x => (if 0 ≤ x ∧ x < nI (S 0 0) then rgN S (hmo mo) pr (tN x) (S 0 0) 0 else -1, (S, mo, pr, fa, sc, ch, rc, D))
section RG
variable {S : Nat → Nat → Nat} {t : Nat} {pr : Nat → Nat}
theorem enA_or {a : Nat} : ∀ j b c, enA S t pr a j b c = c ||| enA S t pr a j b 0
  | 0, b, c => (Nat.or_zero c).symm
  | j + 1, b, c => by
    show enA S t pr a j (b + 1) _ = c ||| enA S t pr a j (b + 1) _
    by_cases h : swB S t pr a b = true
    · rw [if_pos h, if_pos h, enA_or j (b + 1) (c ||| 2 ^ b), enA_or j (b + 1) (0 ||| 2 ^ b), Nat.zero_or, Nat.or_assoc]
    · rw [if_neg h, if_neg h]
      exact enA_or j (b + 1) c
theorem enA_6 {a : Nat} (h6 : pr a = 6) : ∀ j b c, enA S t pr a j b c = c
  | 0, b, c => rfl
  | j + 1, b, c => by
    show enA S t pr a j (b + 1) _ = c
    rw [if_neg (fun z => (swB_i.mp z).1 h6)]
    exact enA_6 h6 j (b + 1) c
theorem enA_lt {a : Nat} : ∀ j b c, b + j ≤ 6 → c < 64 → enA S t pr a j b c < 64
  | 0, b, c, _, h => h
  | j + 1, b, c, e, h => by
    show enA S t pr a j (b + 1) _ < 64
    refine enA_lt j (b + 1) _ (by omega) ?_
    split
    · exact Nat.or_lt_two_pow (n := 6) h (Nat.pow_lt_pow_right (by decide) (by omega))
    · exact h
theorem nxA_lt {L : Nat} (h6 : S 0 0 ≤ 6) : ∀ j a c, c < 64 → nxA S t pr L j a c < 64
  | 0, a, c, h => h
  | j + 1, a, c, h => by
    show nxA S t pr L j (a + 1) _ < 64
    refine nxA_lt h6 j (a + 1) _ ?_
    split
    · exact Nat.or_lt_two_pow (n := 6) h (enA_lt _ _ _ (by omega) (by decide))
    · exact h
theorem rgL_lt {g : Nat} (h6 : S 0 0 ≤ 6) (hg : g < 6) : ∀ n, rgL S t pr g n < 64
  | 0 => by show 2 ^ g < 2 ^ 6; exact Nat.pow_lt_pow_right (by decide) hg
  | n + 1 => nxA_lt h6 _ _ _ (by decide)
theorem tb_i {x b : Nat} : x / 2 ^ b % 2 = 1 ↔ x.testBit b = true := by
  rw [Nat.testBit_eq_decide_div_mod_eq]
  simp
theorem enA_b {a : Nat} : ∀ j k c b, (enA S t pr a j k c).testBit b = true ↔ (c.testBit b = true ∨ (k ≤ b ∧ b < k + j ∧ swB S t pr a b = true))
  | 0, k, c, b => by
    show c.testBit b = true ↔ _
    constructor
    · exact Or.inl
    · rintro (h | h)
      · exact h
      · omega
  | j + 1, k, c, b => by
    show (enA S t pr a j (k + 1) _).testBit b = true ↔ _
    rw [enA_b j (k + 1)]
    by_cases h : swB S t pr a k = true
    · rw [if_pos h, Nat.testBit_or, Nat.testBit_two_pow]
      constructor
      · rintro (z | z)
        · simp at z
          rcases z with z | z
          · exact Or.inl z
          · subst z; exact Or.inr ⟨Nat.le_refl _, by omega, h⟩
        · exact Or.inr ⟨by omega, by omega, z.2.2⟩
      · rintro (z | z)
        · left; simp [z]
        · by_cases e : k = b
          · left; simp [e]
          · right; exact ⟨by omega, by omega, z.2.2⟩
    · rw [if_neg h]
      constructor
      · rintro (z | z)
        · exact Or.inl z
        · exact Or.inr ⟨by omega, by omega, z.2.2⟩
      · rintro (z | z)
        · exact Or.inl z
        · by_cases e : k = b
          · subst e; exact absurd z.2.2 h
          · right; exact ⟨by omega, by omega, z.2.2⟩
theorem nxA_b {L : Nat} : ∀ j k c b, (nxA S t pr L j k c).testBit b = true ↔ (c.testBit b = true ∨ ∃ a, k ≤ a ∧ a < k + j ∧ L.testBit a = true ∧ b < S 0 0 ∧ swB S t pr a b = true)
  | 0, k, c, b => by
    show c.testBit b = true ↔ _
    constructor
    · exact Or.inl
    · rintro (h | ⟨a, h⟩)
      · exact h
      · omega
  | j + 1, k, c, b => by
    show (nxA S t pr L j (k + 1) _).testBit b = true ↔ _
    rw [nxA_b j (k + 1)]
    by_cases h : L / 2 ^ k % 2 = 1
    · rw [if_pos h, Nat.testBit_or]
      have h' := tb_i.mp h
      constructor
      · rintro (z | ⟨a, z⟩)
        · rw [Bool.or_eq_true, enA_b] at z
          rcases z with z | z | z
          · exact Or.inl z
          · simp at z
          · exact Or.inr ⟨k, Nat.le_refl _, by omega, h', by omega, z.2.2⟩
        · exact Or.inr ⟨a, by omega, by omega, z.2.2.1, z.2.2.2.1, z.2.2.2.2⟩
      · rintro (z | ⟨a, z⟩)
        · left; simp [z]
        · by_cases e : k = a
          · left
            subst e
            rw [Bool.or_eq_true, enA_b]
            exact Or.inr (Or.inr ⟨Nat.zero_le _, by omega, z.2.2.2.2⟩)
          · right; exact ⟨a, by omega, by omega, z.2.2.1, z.2.2.2.1, z.2.2.2.2⟩
    · rw [if_neg h]
      have h' := fun z => h (tb_i.mpr z)
      constructor
      · rintro (z | ⟨a, z⟩)
        · exact Or.inl z
        · exact Or.inr ⟨a, by omega, by omega, z.2.2.1, z.2.2.2.1, z.2.2.2.2⟩
      · rintro (z | ⟨a, z⟩)
        · exact Or.inl z
        · by_cases e : k = a
          · subst e; exact absurd z.2.2.1 h'
          · right; exact ⟨a, by omega, by omega, z.2.2.1, z.2.2.2.1, z.2.2.2.2⟩
/-- a way of n steps from g to b -/
def wlk (S : Nat → Nat → Nat) (t : Nat) (pr : Nat → Nat) (g n b : Nat) : Prop := ∃ v : Nat → Nat, v 0 = g ∧ v n = b ∧ ∀ i, i < n → v i < S 0 0 ∧ v (i + 1) < S 0 0 ∧ swB S t pr (v i) (v (i + 1)) = true
theorem rgL_w {g : Nat} (hg : g < S 0 0) : ∀ n b, (rgL S t pr g n).testBit b = true ↔ wlk S t pr g n b
  | 0, b => by
    show (2 ^ g).testBit b = true ↔ _
    rw [Nat.testBit_two_pow]
    constructor
    · intro z
      simp at z
      exact ⟨fun _ => g, rfl, z, fun i h => absurd h (Nat.not_lt_zero i)⟩
    · rintro ⟨v, h0, h1, -⟩
      simp
      omega
  | n + 1, b => by
    show (nxA S t pr (rgL S t pr g n) (S 0 0) 0 0).testBit b = true ↔ _
    rw [nxA_b]
    constructor
    · rintro (z | ⟨a, -, ha, hl, hb, hs⟩)
      · simp at z
      · obtain ⟨v, h0, h1, h2⟩ := (rgL_w hg n a).mp hl
        refine ⟨fun i => if i ≤ n then v i else b, ?_, ?_, fun i hin => ?_⟩
        · show (if 0 ≤ n then v 0 else b) = g
          rw [if_pos (Nat.zero_le _)]; exact h0
        · show (if n + 1 ≤ n then _ else b) = b
          rw [if_neg (by omega)]
        · show (if i ≤ n then v i else b) < _ ∧ (if i + 1 ≤ n then v (i + 1) else b) < _ ∧ swB S t pr (if i ≤ n then v i else b) (if i + 1 ≤ n then v (i + 1) else b) = true
          rw [if_pos (show i ≤ n by omega)]
          by_cases e : i = n
          · subst e
            rw [if_neg (by omega), h1]
            exact ⟨by omega, hb, hs⟩
          · rw [if_pos (show i + 1 ≤ n by omega)]
            exact h2 i (by omega)
    · rintro ⟨v, h0, h1, h2⟩
      right
      have hq := h2 n (by omega)
      rw [h1] at hq
      exact ⟨v n, Nat.zero_le _, by omega, (rgL_w hg n (v n)).mpr ⟨v, h0, rfl, fun i hi => h2 i (by omega)⟩, hq.2.1, hq.2.2⟩
/-- more places than values -/
theorem pgn : ∀ (N : Nat) (f : Nat → Nat), (∀ i, i ≤ N → f i < N) → ∃ i j, i < j ∧ j ≤ N ∧ f i = f j
  | 0, f, h => absurd (h 0 (Nat.le_refl _)) (Nat.not_lt_zero _)
  | N + 1, f, h => by
    by_cases q : ∃ i, i < N + 1 ∧ f i = f (N + 1)
    · obtain ⟨i, hi, e⟩ := q
      exact ⟨i, N + 1, hi, Nat.le_refl _, e⟩
    · have hq : ∀ i, i < N + 1 → f i ≠ f (N + 1) := fun i hi e => q ⟨i, hi, e⟩
      obtain ⟨i, j, hij, hj, e⟩ := pgn N (fun i => if f i < f (N + 1) then f i else f i - 1) (fun i hi => by
        have h1 := h i (by omega)
        have h2 := h (N + 1) (Nat.le_refl _)
        have h3 := hq i (by omega)
        show (if f i < f (N + 1) then f i else f i - 1) < N
        split <;> omega)
      refine ⟨i, j, hij, by omega, ?_⟩
      have h3 := hq i (by omega)
      have h4 := hq j (by omega)
      have e2 : (if f i < f (N + 1) then f i else f i - 1) = (if f j < f (N + 1) then f j else f j - 1) := e
      split at e2 <;> split at e2 <;> omega
theorem wlk_s {g n : Nat} (h : wlk S t pr g n g) (hn : S 0 0 < n) : ∃ m, 1 ≤ m ∧ m < n ∧ wlk S t pr g m g := by
  obtain ⟨v, h0, h1, h2⟩ := h
  obtain ⟨i, j, hij, hj, e⟩ := pgn (S 0 0) (fun i => v (i + 1)) (fun i hi => (h2 i (by omega)).2.1)
  have e' : v (i + 1) = v (j + 1) := e
  refine ⟨n - (j - i), by omega, by omega, fun k => if k ≤ i + 1 then v k else v (k + (j - i)), ?_, ?_, fun k hk => ?_⟩
  · show (if 0 ≤ i + 1 then v 0 else _) = g
    rw [if_pos (by omega)]; exact h0
  · show (if n - (j - i) ≤ i + 1 then v (n - (j - i)) else v (n - (j - i) + (j - i))) = g
    by_cases c : n - (j - i) ≤ i + 1
    · rw [if_pos c, show n - (j - i) = i + 1 by omega, e', show j + 1 = n by omega]; exact h1
    · rw [if_neg c, show n - (j - i) + (j - i) = n by omega]; exact h1
  · show (if k ≤ i + 1 then v k else v (k + (j - i))) < _ ∧ (if k + 1 ≤ i + 1 then v (k + 1) else v (k + 1 + (j - i))) < _ ∧ swB S t pr (if k ≤ i + 1 then v k else v (k + (j - i))) (if k + 1 ≤ i + 1 then v (k + 1) else v (k + 1 + (j - i))) = true
    by_cases c : k + 1 ≤ i + 1
    · rw [if_pos c, if_pos (by omega)]
      exact h2 k (by omega)
    · by_cases c2 : k ≤ i + 1
      · rw [if_pos c2, if_neg c, show k = i + 1 by omega, e', show i + 1 + 1 + (j - i) = j + 1 + 1 by omega]
        exact h2 (j + 1) (by omega)
      · rw [if_neg c2, if_neg c, show k + 1 + (j - i) = k + (j - i) + 1 by omega]
        exact h2 (k + (j - i)) (by omega)
theorem wlk_m {g : Nat} : ∀ (N n : Nat), n ≤ N → 1 ≤ n → wlk S t pr g n g → ∃ m, 1 ≤ m ∧ m ≤ S 0 0 ∧ wlk S t pr g m g
  | 0, n, h, h1, _ => by omega
  | N + 1, n, h, h1, w => by
    by_cases c : n ≤ S 0 0
    · exact ⟨n, h1, c, w⟩
    · obtain ⟨m, m1, m2, m3⟩ := wlk_s w (by omega)
      exact wlk_m N m (by omega) m1 m3
theorem rgN_f {g : Nat} : ∀ i n j, i ≤ j → (∃ m, n < m ∧ m ≤ n + i ∧ rgL S t pr g m / 2 ^ g % 2 = 1) → rgN S t pr g j n = rgN S t pr g i n
  | 0, n, j, _, ⟨m, h⟩ => by omega
  | i + 1, n, 0, h, _ => by omega
  | i + 1, n, j + 1, h, ⟨m, m1, m2, m3⟩ => by
    show (if _ then _ else _) = (if _ then _ else _)
    by_cases c : rgL S t pr g (n + 1) / 2 ^ g % 2 = 1
    · rw [if_pos c, if_pos c]
    · rw [if_neg c, if_neg c]
      refine rgN_f i (n + 1) j (by omega) ⟨m, ?_, by omega, m3⟩
      rcases Nat.lt_or_ge (n + 1) m with q | q
      · exact q
      · exfalso
        rw [show m = n + 1 by omega] at m3
        exact c m3
theorem rgN_n {g : Nat} : ∀ i n, (∀ m, n < m → m ≤ n + i → ¬ rgL S t pr g m / 2 ^ g % 2 = 1) → rgN S t pr g i n = -3
  | 0, n, _ => rfl
  | i + 1, n, h => by
    show (if _ then _ else _) = _
    rw [if_neg (h (n + 1) (by omega) (by omega))]
    exact rgN_n i (n + 1) (fun m a b => h m (by omega) (by omega))
theorem rgN_6 {g : Nat} (hg : g < S 0 0) (h6 : S 0 0 ≤ 6) : rgN S t pr g 6 0 = rgN S t pr g (S 0 0) 0 := by
  by_cases c : ∃ m, 0 < m ∧ m ≤ 0 + S 0 0 ∧ rgL S t pr g m / 2 ^ g % 2 = 1
  · exact rgN_f _ _ _ h6 c
  · have c' : ∀ m, 1 ≤ m → ¬ rgL S t pr g m / 2 ^ g % 2 = 1 := fun m hm z => by
      obtain ⟨m', a1, a2, a3⟩ := wlk_m m m (Nat.le_refl _) hm ((rgL_w hg m g).mp (tb_i.mp z))
      exact c ⟨m', a1, by omega, tb_i.mpr ((rgL_w hg m' g).mpr a3)⟩
    rw [rgN_n 6 0 (fun m a _ => c' m a), rgN_n (S 0 0) 0 (fun m a _ => c' m a)]
end RG
set_option maxHeartbeats 4000000 in
set_option maxRecDepth 100000 in
theorem l_Co_envied {G : zG} {n u : Nat} {ν : Nat → va_E} {S : Nat → Nat → Nat} {sc ch : Int32} {mo cs : Nat} {pr fa q : Nat → Nat} (hi : iS S) (hm : mo ≤ 16) (hx : iX S pr fa) {g : Nat} (hg : g < S 0 0) (h6 : pr g ≠ 6) {Φ : zP} : ∀ j k c, k + j = S 0 0 → c < 64 → (Φ (some (.int (nI (enA S (hmo mo) pr g j k c)))) (pcc ν S sc ch mo cs pr fa q)) →
    zW G 2 M_Co_envied 43 [.ref 5, .int (nI g), .int (nI c), .int (nI (hmo mo)), .int (nI (gS S g (pr g) (hmo mo))), .int (nI k), .retAddr 0] [] n u (pcc ν S sc ch mo cs pr fa q) n u Φ
  | 0, k, c, e, hc, K => by
    have hi0 := hi.1
    have hh := hmo_le (mo := mo)
    refine z_il5 (pc' := 45) 26 rfl rfl ?_
    refine z_al0 (pc' := 46) 27 rfl rfl ?_
    refine z_getf (pc' := 49) 28 rfl rfl f_Co_60_3 (by first | exact pcc_5 | exact pcc_6 | exact pcc_7 | exact pcc_8 | exact pcc_9 | exact pcc_10 | exact pcc_11 | exact pcc_12 | exact pcc_13 | exact pcc_14 | exact pcc_15 | exact pcc_22) (by rfl) ?_
    first | refine z_icmp_geN (pc' := 52) 29 rfl rfl (tgt := 97) rfl (by omega) (by omega) (fun h49 => ?_) (fun h49 => ?_) | refine z_icmp_ge (pc' := 52) 29 rfl rfl (tgt := 97) rfl (fun h49 => ?_) (fun h49 => ?_)
    · refine z_il2 (pc' := 98) 54 rfl rfl ?_
      exact z_ireturn 55 rfl rfl (by first | rfl | exact zbo_nar) rfl rfl (by exact K)
    · exfalso; omega
  | j + 1, k, c, e, hc, K => by
    have hi0 := hi.1
    have hh := hmo_le (mo := mo)
    have hpk := (hx k).1
    have hg1 := gS_lt hi (g := g) (w := pr k) (t := hmo mo)
    have hg2 := gS_lt hi (g := g) (w := pr g) (t := hmo mo)
    refine z_il5 (pc' := 45) 26 rfl rfl ?_
    refine z_al0 (pc' := 46) 27 rfl rfl ?_
    refine z_getf (pc' := 49) 28 rfl rfl f_Co_60_3 (by first | exact pcc_5 | exact pcc_6 | exact pcc_7 | exact pcc_8 | exact pcc_9 | exact pcc_10 | exact pcc_11 | exact pcc_12 | exact pcc_13 | exact pcc_14 | exact pcc_15 | exact pcc_22) (by rfl) ?_
    first | refine z_icmp_geN (pc' := 52) 29 rfl rfl (tgt := 97) rfl (by omega) (by omega) (fun h49 => ?_) (fun h49 => ?_) | refine z_icmp_ge (pc' := 52) 29 rfl rfl (tgt := 97) rfl (fun h49 => ?_) (fun h49 => ?_)
    · exfalso; omega
    · refine z_al0 (pc' := 53) 30 rfl rfl ?_
      refine z_getf (pc' := 56) 31 rfl rfl f_Co_43_3 (by first | exact pcc_5 | exact pcc_6 | exact pcc_7 | exact pcc_8 | exact pcc_9 | exact pcc_10 | exact pcc_11 | exact pcc_12 | exact pcc_13 | exact pcc_14 | exact pcc_15 | exact pcc_22) (by rfl) ?_
      refine z_getr (pc' := 59) 32 rfl rfl f_Co_109_4 (by first | exact pcc_5 | exact pcc_6 | exact pcc_7 | exact pcc_8 | exact pcc_9 | exact pcc_10 | exact pcc_11 | exact pcc_12 | exact pcc_13 | exact pcc_14 | exact pcc_15 | exact pcc_22) (by rfl) ?_
      refine z_il5 (pc' := 61) 33 rfl rfl ?_
      refine z_iald (pc' := 62) 34 rfl rfl (by first | exact pcc_5 | exact pcc_6 | exact pcc_7 | exact pcc_8 | exact pcc_9 | exact pcc_10 | exact pcc_11 | exact pcc_12 | exact pcc_13 | exact pcc_14 | exact pcc_15 | exact pcc_22) (by omega) (by decide) ?_
      refine z_is6 rfl rfl (pc' := 64) 35 rfl rfl ?_
      refine z_il6 (pc' := 66) 36 rfl rfl ?_
      refine z_bipush (v := nI 6) (by decide) (pc' := 68) 37 rfl rfl ?_
      first | refine z_icmp_eqN (pc' := 71) 38 rfl rfl (tgt := 91) rfl (by omega) (by omega) (fun h68 => ?_) (fun h68 => ?_) | refine z_icmp_eq (pc' := 71) 38 rfl rfl (tgt := 91) rfl (fun h68 => ?_) (fun h68 => ?_)
      · first | refine z_inc5N rfl rfl (pc' := 94) 52 rfl rfl ?_ | refine z_inc5 rfl rfl rfl (pc' := 94) 52 rfl rfl ?_
        refine z_goto 53 rfl (tgt := 43) rfl ?_
        refine z_less6 ?_
        refine l_Co_envied hi hm hx hg h6 j (k + 1) _ (by omega) hc ?_
        have e9 : enA S (hmo mo) pr g (j + 1) k c = enA S (hmo mo) pr g j (k + 1) (c) := by
          show enA S (hmo mo) pr g j (k + 1) (if swB S (hmo mo) pr g k = true then c ||| 2 ^ k else c) = _
          rw [if_neg (fun z => (swB_i.mp z).2.1 h68)]
        rw [e9] at K
        exact K
      · refine z_al0 (pc' := 72) 39 rfl rfl ?_
        refine z_il1 (pc' := 73) 40 rfl rfl ?_
        refine z_il6 (pc' := 75) 41 rfl rfl ?_
        refine z_il3 (pc' := 76) 42 rfl rfl ?_
        refine z_callV1 (pc' := 79) 43 rfl rfl k_Co_105 (by first | exact pcc_5 | exact pcc_6 | exact pcc_7 | exact pcc_8 | exact pcc_9 | exact pcc_10 | exact pcc_11 | exact pcc_12 | exact pcc_13 | exact pcc_14 | exact pcc_15 | exact pcc_22) (c_Co_gainBy isCo_pcc hi (by omega) (by omega) (by omega)) (by decide) (Nat.le_refl _) (Nat.le_refl _) rfl rfl (Nat.le_of_ble_eq_true rfl) ?_
        refine z_il4 (pc' := 81) 44 rfl rfl ?_
        first | refine z_icmp_leN (pc' := 84) 45 rfl rfl (tgt := 91) rfl (by omega) (by omega) (fun h81 => ?_) (fun h81 => ?_) | refine z_icmp_le (pc' := 84) 45 rfl rfl (tgt := 91) rfl (fun h81 => ?_) (fun h81 => ?_)
        · first | refine z_inc5N rfl rfl (pc' := 94) 52 rfl rfl ?_ | refine z_inc5 rfl rfl rfl (pc' := 94) 52 rfl rfl ?_
          refine z_goto 53 rfl (tgt := 43) rfl ?_
          refine z_less6 ?_
          refine l_Co_envied hi hm hx hg h6 j (k + 1) _ (by omega) hc ?_
          have e9 : enA S (hmo mo) pr g (j + 1) k c = enA S (hmo mo) pr g j (k + 1) (c) := by
            show enA S (hmo mo) pr g j (k + 1) (if swB S (hmo mo) pr g k = true then c ||| 2 ^ k else c) = _
            rw [if_neg (fun z => by have := swB_i.mp z; omega)]
          rw [e9] at K
          exact K
        · refine z_il2 (pc' := 85) 46 rfl rfl ?_
          refine z_iconst (v := nI 1) (by decide) (pc' := 86) 47 rfl rfl ?_
          refine z_il5 (pc' := 88) 48 rfl rfl ?_
          refine z_ishl (pc' := 89) 49 rfl rfl ?_
          rw [nb_shl1 (by omega)]
          refine z_ior (pc' := 90) 50 rfl rfl ?_
          rw [nb_or]
          refine z_is2 rfl rfl (pc' := 91) 51 rfl rfl ?_
          first | refine z_inc5N rfl rfl (pc' := 94) 52 rfl rfl ?_ | refine z_inc5 rfl rfl rfl (pc' := 94) 52 rfl rfl ?_
          refine z_goto 53 rfl (tgt := 43) rfl ?_
          refine z_less6 ?_
          refine l_Co_envied hi hm hx hg h6 j (k + 1) _ (by omega) (Nat.or_lt_two_pow (n := 6) hc (Nat.pow_lt_pow_right (by decide) (by omega))) ?_
          have e9 : enA S (hmo mo) pr g (j + 1) k c = enA S (hmo mo) pr g j (k + 1) (c ||| 2 ^ k) := by
            show enA S (hmo mo) pr g j (k + 1) (if swB S (hmo mo) pr g k = true then c ||| 2 ^ k else c) = _
            rw [if_pos (swB_i.mpr ⟨h6, h68, h81⟩)]
          rw [e9] at K
          exact K
set_option maxHeartbeats 4000000 in
set_option maxRecDepth 100000 in
theorem c_Co_envied {G : zG} {n u : Nat} {ν : Nat → va_E} {S : Nat → Nat → Nat} {sc ch : Int32} {mo cs : Nat} {pr fa q : Nat → Nat} (hi : iS S) (hm : mo ≤ 16) (hx : iX S pr fa) {g : Nat} (hg : g < S 0 0) :
    zMet G 2 M_Co_envied [.ref 5, .int (nI g)] n u (pcc ν S sc ch mo cs pr fa q) n u (zE (some (.int (nI (enA S (hmo mo) pr g (S 0 0) 0 0)))) (pcc ν S sc ch mo cs pr fa q)) := by
  refine z_start (lv := [.ref 5, .int (nI g), .retAddr 0, .retAddr 0, .retAddr 0, .retAddr 0, .retAddr 0]) K_Co_envied rfl rfl (Nat.le_refl _) (Nat.le_refl _) (Nat.le_of_ble_eq_true rfl) rfl ?_
  have hi0 := hi.1
  have hh := hmo_le (mo := mo)
  have hpg := (hx g).1
  refine z_iconst (v := nI 0) (by decide) (pc' := 1) 0 rfl rfl ?_
  refine z_is2 rfl rfl (pc' := 2) 1 rfl rfl ?_
  refine z_al0 (pc' := 3) 2 rfl rfl ?_
  refine z_callV1 (pc' := 6) 3 rfl rfl k_Co_101 (by first | exact pcc_5 | exact pcc_6 | exact pcc_7 | exact pcc_8 | exact pcc_9 | exact pcc_10 | exact pcc_11 | exact pcc_12 | exact pcc_13 | exact pcc_14 | exact pcc_15 | exact pcc_22) (c_Co_heldMonth hm) (by decide) (Nat.le_refl _) (Nat.le_refl _) rfl rfl (Nat.le_of_ble_eq_true rfl) ?_
  refine z_is3 rfl rfl (pc' := 7) 4 rfl rfl ?_
  refine z_al0 (pc' := 8) 5 rfl rfl ?_
  refine z_getf (pc' := 11) 6 rfl rfl f_Co_43_3 (by first | exact pcc_5 | exact pcc_6 | exact pcc_7 | exact pcc_8 | exact pcc_9 | exact pcc_10 | exact pcc_11 | exact pcc_12 | exact pcc_13 | exact pcc_14 | exact pcc_15 | exact pcc_22) (by rfl) ?_
  refine z_getr (pc' := 14) 7 rfl rfl f_Co_109_4 (by first | exact pcc_5 | exact pcc_6 | exact pcc_7 | exact pcc_8 | exact pcc_9 | exact pcc_10 | exact pcc_11 | exact pcc_12 | exact pcc_13 | exact pcc_14 | exact pcc_15 | exact pcc_22) (by rfl) ?_
  refine z_il1 (pc' := 15) 8 rfl rfl ?_
  refine z_iald (pc' := 16) 9 rfl rfl (by first | exact pcc_5 | exact pcc_6 | exact pcc_7 | exact pcc_8 | exact pcc_9 | exact pcc_10 | exact pcc_11 | exact pcc_12 | exact pcc_13 | exact pcc_14 | exact pcc_15 | exact pcc_22) (by omega) (by decide) ?_
  refine z_bipush (v := nI 6) (by decide) (pc' := 18) 10 rfl rfl ?_
  first | refine z_icmp_neN (pc' := 21) 11 rfl rfl (tgt := 23) rfl (by omega) (by omega) (fun h18 => ?_) (fun h18 => ?_) | refine z_icmp_ne (pc' := 21) 11 rfl rfl (tgt := 23) rfl (fun h18 => ?_) (fun h18 => ?_)
  · refine z_al0 (pc' := 24) 14 rfl rfl ?_
    refine z_il1 (pc' := 25) 15 rfl rfl ?_
    refine z_al0 (pc' := 26) 16 rfl rfl ?_
    refine z_getf (pc' := 29) 17 rfl rfl f_Co_43_3 (by first | exact pcc_5 | exact pcc_6 | exact pcc_7 | exact pcc_8 | exact pcc_9 | exact pcc_10 | exact pcc_11 | exact pcc_12 | exact pcc_13 | exact pcc_14 | exact pcc_15 | exact pcc_22) (by rfl) ?_
    refine z_getr (pc' := 32) 18 rfl rfl f_Co_109_4 (by first | exact pcc_5 | exact pcc_6 | exact pcc_7 | exact pcc_8 | exact pcc_9 | exact pcc_10 | exact pcc_11 | exact pcc_12 | exact pcc_13 | exact pcc_14 | exact pcc_15 | exact pcc_22) (by rfl) ?_
    refine z_il1 (pc' := 33) 19 rfl rfl ?_
    refine z_iald (pc' := 34) 20 rfl rfl (by first | exact pcc_5 | exact pcc_6 | exact pcc_7 | exact pcc_8 | exact pcc_9 | exact pcc_10 | exact pcc_11 | exact pcc_12 | exact pcc_13 | exact pcc_14 | exact pcc_15 | exact pcc_22) (by omega) (by decide) ?_
    refine z_il3 (pc' := 35) 21 rfl rfl ?_
    refine z_callV1 (pc' := 38) 22 rfl rfl k_Co_105 (by first | exact pcc_5 | exact pcc_6 | exact pcc_7 | exact pcc_8 | exact pcc_9 | exact pcc_10 | exact pcc_11 | exact pcc_12 | exact pcc_13 | exact pcc_14 | exact pcc_15 | exact pcc_22) (c_Co_gainBy isCo_pcc hi (by omega) (by omega) (by omega)) (by decide) (Nat.le_refl _) (Nat.le_refl _) rfl rfl (Nat.le_of_ble_eq_true rfl) ?_
    refine z_is4 rfl rfl (pc' := 40) 23 rfl rfl ?_
    refine z_iconst (v := nI 0) (by decide) (pc' := 41) 24 rfl rfl ?_
    refine z_is5 rfl rfl (pc' := 43) 25 rfl rfl ?_
    exact l_Co_envied hi hm hx hg h18 (S 0 0) 0 0 (by omega) (by decide) ⟨rfl, rfl⟩
  · refine z_iconst (v := nI 0) (by decide) (pc' := 22) 12 rfl rfl ?_
    exact z_ireturn 13 rfl rfl (by first | rfl | exact zbo_nar) rfl rfl (by exact ⟨by rw [enA_6 h18], rfl⟩)
set_option maxHeartbeats 4000000 in
set_option maxRecDepth 100000 in
theorem l_Co_ringOf1 {G : zG} {n u : Nat} {ν : Nat → va_E} {S : Nat → Nat → Nat} {sc ch : Int32} {mo cs : Nat} {pr fa q : Nat → Nat} (hi : iS S) (hm : mo ≤ 16) (hx : iX S pr fa) {g s9 L : Nat} (hL : L < 64) {Φ : zP} : ∀ j k c, k + j = S 0 0 → c < 64 → (zW G 3 M_Co_ringOf 59 [.ref 5, .int (nI g), .int (nI L), .int (nI s9), .int (nI (nxA S (hmo mo) pr L j k c)), .int (nI (S 0 0))] [] n u (pcc ν S sc ch mo cs pr fa q) n u Φ) →
    zW G 3 M_Co_ringOf 20 [.ref 5, .int (nI g), .int (nI L), .int (nI s9), .int (nI c), .int (nI k)] [] n u (pcc ν S sc ch mo cs pr fa q) n u Φ
  | 0, k, c, e, hc, K => by
    obtain rfl : k = S 0 0 := by omega
    have hi0 := hi.1
    have hh := hmo_le (mo := mo)
    refine z_il5 (pc' := 22) 14 rfl rfl ?_
    refine z_al0 (pc' := 23) 15 rfl rfl ?_
    refine z_getf (pc' := 26) 16 rfl rfl f_Co_60_3 (by first | exact pcc_5 | exact pcc_6 | exact pcc_7 | exact pcc_8 | exact pcc_9 | exact pcc_10 | exact pcc_11 | exact pcc_12 | exact pcc_13 | exact pcc_14 | exact pcc_15 | exact pcc_22) (by rfl) ?_
    first | refine z_icmp_geN (pc' := 29) 17 rfl rfl (tgt := 59) rfl (by omega) (by omega) (fun h26 => ?_) (fun h26 => ?_) | refine z_icmp_ge (pc' := 29) 17 rfl rfl (tgt := 59) rfl (fun h26 => ?_) (fun h26 => ?_)
    · exact K
    · exfalso; omega
  | j + 1, k, c, e, hc, K => by
    have hi0 := hi.1
    have hh := hmo_le (mo := mo)
    refine z_il5 (pc' := 22) 14 rfl rfl ?_
    refine z_al0 (pc' := 23) 15 rfl rfl ?_
    refine z_getf (pc' := 26) 16 rfl rfl f_Co_60_3 (by first | exact pcc_5 | exact pcc_6 | exact pcc_7 | exact pcc_8 | exact pcc_9 | exact pcc_10 | exact pcc_11 | exact pcc_12 | exact pcc_13 | exact pcc_14 | exact pcc_15 | exact pcc_22) (by rfl) ?_
    first | refine z_icmp_geN (pc' := 29) 17 rfl rfl (tgt := 59) rfl (by omega) (by omega) (fun h26 => ?_) (fun h26 => ?_) | refine z_icmp_ge (pc' := 29) 17 rfl rfl (tgt := 59) rfl (fun h26 => ?_) (fun h26 => ?_)
    · exfalso; omega
    · refine z_il4 (pc' := 31) 18 rfl rfl ?_
      refine z_il2 (pc' := 32) 19 rfl rfl ?_
      refine z_il5 (pc' := 34) 20 rfl rfl ?_
      refine z_ishr (pc' := 35) 21 rfl rfl ?_
      refine z_iconst (v := nI 1) (by decide) (pc' := 36) 22 rfl rfl ?_
      refine z_iand (pc' := 37) 23 rfl rfl ?_
      rw [nb_bit (by omega) (by omega)]
      first | refine z_if_eqB (pc' := 40) 24 rfl rfl (tgt := 49) rfl (fun h37 => ?_) (fun h37 => ?_) | refine z_if_eqN (pc' := 40) 24 rfl rfl (tgt := 49) rfl (by omega) (fun h37 => ?_) (fun h37 => ?_) | refine z_if_eq (pc' := 40) 24 rfl rfl (tgt := 49) rfl (fun h37 => ?_) (fun h37 => ?_)
      · refine z_iconst (v := nI 0) (by decide) (pc' := 50) 29 rfl rfl ?_
        refine z_ior (pc' := 51) 30 rfl rfl ?_
        rw [nb_or, Nat.or_zero]
        refine z_is4 rfl rfl (pc' := 53) 31 rfl rfl ?_
        first | refine z_inc5N rfl rfl (pc' := 56) 32 rfl rfl ?_ | refine z_inc5 rfl rfl rfl (pc' := 56) 32 rfl rfl ?_
        refine z_goto 33 rfl (tgt := 20) rfl ?_
        refine l_Co_ringOf1 hi hm hx hL j (k + 1) _ (by omega) hc ?_
        have e9 : nxA S (hmo mo) pr L (j + 1) k c = nxA S (hmo mo) pr L j (k + 1) (c) := by
          show nxA S (hmo mo) pr L j (k + 1) (if L / 2 ^ k % 2 = 1 then c ||| enA S (hmo mo) pr k (S 0 0) 0 0 else c) = _
          rw [if_neg (by omega)]
        rw [e9] at K
        exact K
      · refine z_al0 (pc' := 41) 25 rfl rfl ?_
        refine z_il5 (pc' := 43) 26 rfl rfl ?_
        refine z_callV1 (pc' := 46) 27 rfl rfl k_Co_125 (by first | exact pcc_5 | exact pcc_6 | exact pcc_7 | exact pcc_8 | exact pcc_9 | exact pcc_10 | exact pcc_11 | exact pcc_12 | exact pcc_13 | exact pcc_14 | exact pcc_15 | exact pcc_22) (c_Co_envied hi hm hx (by omega)) (by decide) (Nat.le_refl _) (Nat.le_refl _) rfl rfl (Nat.le_of_ble_eq_true rfl) ?_
        refine z_goto 28 rfl (tgt := 50) rfl ?_
        refine z_ior (pc' := 51) 30 rfl rfl ?_
        rw [nb_or]
        refine z_is4 rfl rfl (pc' := 53) 31 rfl rfl ?_
        first | refine z_inc5N rfl rfl (pc' := 56) 32 rfl rfl ?_ | refine z_inc5 rfl rfl rfl (pc' := 56) 32 rfl rfl ?_
        refine z_goto 33 rfl (tgt := 20) rfl ?_
        refine l_Co_ringOf1 hi hm hx hL j (k + 1) _ (by omega) (Nat.or_lt_two_pow (n := 6) hc (enA_lt _ _ _ (by omega) (by decide))) ?_
        have e9 : nxA S (hmo mo) pr L (j + 1) k c = nxA S (hmo mo) pr L j (k + 1) (c ||| enA S (hmo mo) pr k (S 0 0) 0 0) := by
          show nxA S (hmo mo) pr L j (k + 1) (if L / 2 ^ k % 2 = 1 then c ||| enA S (hmo mo) pr k (S 0 0) 0 0 else c) = _
          rw [if_pos (by omega)]
        rw [e9] at K
        exact K
set_option maxHeartbeats 4000000 in
set_option maxRecDepth 100000 in
theorem l_Co_ringOf2 {G : zG} {n u : Nat} {ν : Nat → va_E} {S : Nat → Nat → Nat} {sc ch : Int32} {mo cs : Nat} {pr fa q : Nat → Nat} (hi : iS S) (hm : mo ≤ 16) (hx : iX S pr fa) {g : Nat} (hg : g < S 0 0) {Φ : zP} : ∀ j k, k + j = S 0 0 → (Φ (some (.int (rgN S (hmo mo) pr g j k))) (pcc ν S sc ch mo cs pr fa q)) →
    zW G 3 M_Co_ringOf 6 [.ref 5, .int (nI g), .int (nI (rgL S (hmo mo) pr g k)), .int (nI (k + 1)), .retAddr 0, .retAddr 0] [] n u (pcc ν S sc ch mo cs pr fa q) n u Φ
  | 0, k, e, K => by
    have hi0 := hi.1
    have hh := hmo_le (mo := mo)
    refine z_il3 (pc' := 7) 6 rfl rfl ?_
    refine z_al0 (pc' := 8) 7 rfl rfl ?_
    refine z_getf (pc' := 11) 8 rfl rfl f_Co_60_3 (by first | exact pcc_5 | exact pcc_6 | exact pcc_7 | exact pcc_8 | exact pcc_9 | exact pcc_10 | exact pcc_11 | exact pcc_12 | exact pcc_13 | exact pcc_14 | exact pcc_15 | exact pcc_22) (by rfl) ?_
    first | refine z_icmp_gtN (pc' := 14) 9 rfl rfl (tgt := 79) rfl (by omega) (by omega) (fun h11 => ?_) (fun h11 => ?_) | refine z_icmp_gt (pc' := 14) 9 rfl rfl (tgt := 79) rfl (fun h11 => ?_) (fun h11 => ?_)
    · refine z_bipush (v := (-3)) (by decide) (pc' := 81) 46 rfl rfl ?_
      exact z_ireturn 47 rfl rfl (by first | rfl | exact zbo_nar) rfl rfl (by exact K)
    · exfalso; omega
  | j + 1, k, e, K => by
    have hi0 := hi.1
    have hh := hmo_le (mo := mo)
    have hl := rgL_lt (S := S) (t := hmo mo) (pr := pr) (g := g) hi0 (by omega) k
    have hl2 := rgL_lt (S := S) (t := hmo mo) (pr := pr) (g := g) hi0 (by omega) (k + 1)
    refine z_il3 (pc' := 7) 6 rfl rfl ?_
    refine z_al0 (pc' := 8) 7 rfl rfl ?_
    refine z_getf (pc' := 11) 8 rfl rfl f_Co_60_3 (by first | exact pcc_5 | exact pcc_6 | exact pcc_7 | exact pcc_8 | exact pcc_9 | exact pcc_10 | exact pcc_11 | exact pcc_12 | exact pcc_13 | exact pcc_14 | exact pcc_15 | exact pcc_22) (by rfl) ?_
    first | refine z_icmp_gtN (pc' := 14) 9 rfl rfl (tgt := 79) rfl (by omega) (by omega) (fun h11 => ?_) (fun h11 => ?_) | refine z_icmp_gt (pc' := 14) 9 rfl rfl (tgt := 79) rfl (fun h11 => ?_) (fun h11 => ?_)
    · exfalso; omega
    · refine z_iconst (v := nI 0) (by decide) (pc' := 15) 10 rfl rfl ?_
      refine z_is4 rfl rfl (pc' := 17) 11 rfl rfl ?_
      refine z_iconst (v := nI 0) (by decide) (pc' := 18) 12 rfl rfl ?_
      refine z_is5 rfl rfl (pc' := 20) 13 rfl rfl ?_
      refine l_Co_ringOf1 hi hm hx hl (S 0 0) 0 0 (by omega) (by decide) ?_
      rw [show nxA S (hmo mo) pr (rgL S (hmo mo) pr g k) (S 0 0) 0 0 = rgL S (hmo mo) pr g (k + 1) from rfl]
      refine z_il4 (pc' := 61) 34 rfl rfl ?_
      refine z_il1 (pc' := 62) 35 rfl rfl ?_
      refine z_ishr (pc' := 63) 36 rfl rfl ?_
      refine z_iconst (v := nI 1) (by decide) (pc' := 64) 37 rfl rfl ?_
      refine z_iand (pc' := 65) 38 rfl rfl ?_
      rw [nb_bit (by omega) (by omega)]
      first | refine z_if_eqB (pc' := 68) 39 rfl rfl (tgt := 70) rfl (fun h65 => ?_) (fun h65 => ?_) | refine z_if_eqN (pc' := 68) 39 rfl rfl (tgt := 70) rfl (by omega) (fun h65 => ?_) (fun h65 => ?_) | refine z_if_eq (pc' := 68) 39 rfl rfl (tgt := 70) rfl (fun h65 => ?_) (fun h65 => ?_)
      · refine z_il4 (pc' := 72) 42 rfl rfl ?_
        refine z_is2 rfl rfl (pc' := 73) 43 rfl rfl ?_
        first | refine z_inc3N rfl rfl (pc' := 76) 44 rfl rfl ?_ | refine z_inc3 rfl rfl rfl (pc' := 76) 44 rfl rfl ?_
        refine z_goto 45 rfl (tgt := 6) rfl ?_
        refine z_less4 ?_
        refine z_less5 ?_
        refine l_Co_ringOf2 hi hm hx hg j (k + 1) (by omega) ?_
        rw [show rgN S (hmo mo) pr g (j + 1) k = rgN S (hmo mo) pr g j (k + 1) from if_neg (by omega)] at K
        exact K
      · refine z_il3 (pc' := 69) 40 rfl rfl ?_
        exact z_ireturn 41 rfl rfl (by first | rfl | exact zbo_nar) rfl rfl (by rw [show rgN S (hmo mo) pr g (j + 1) k = nI (k + 1) from if_pos (by omega)] at K; exact K)
set_option maxHeartbeats 4000000 in
set_option maxRecDepth 100000 in
theorem c_Co_ringOf {G : zG} {n u : Nat} {ν : Nat → va_E} {S : Nat → Nat → Nat} {sc ch : Int32} {mo cs : Nat} {pr fa q : Nat → Nat} (hi : iS S) (hm : mo ≤ 16) (hx : iX S pr fa) {g : Nat} (hg : g < S 0 0) :
    zMet G 3 M_Co_ringOf [.ref 5, .int (nI g)] n u (pcc ν S sc ch mo cs pr fa q) n u (zE (some (.int (rgN S (hmo mo) pr g (S 0 0) 0))) (pcc ν S sc ch mo cs pr fa q)) := by
  refine z_start (lv := [.ref 5, .int (nI g), .retAddr 0, .retAddr 0, .retAddr 0, .retAddr 0]) K_Co_ringOf rfl rfl (Nat.le_refl _) (Nat.le_refl _) (Nat.le_of_ble_eq_true rfl) rfl ?_
  have hi0 := hi.1
  refine z_iconst (v := nI 1) (by decide) (pc' := 1) 0 rfl rfl ?_
  refine z_il1 (pc' := 2) 1 rfl rfl ?_
  refine z_ishl (pc' := 3) 2 rfl rfl ?_
  rw [nb_shl1 (by omega)]
  refine z_is2 rfl rfl (pc' := 4) 3 rfl rfl ?_
  refine z_iconst (v := nI 1) (by decide) (pc' := 5) 4 rfl rfl ?_
  refine z_is3 rfl rfl (pc' := 6) 5 rfl rfl ?_
  exact l_Co_ringOf2 hi hm hx hg (S 0 0) 0 (by omega) ⟨rfl, rfl⟩
set_option maxHeartbeats 4000000 in
set_option maxRecDepth 100000 in
theorem c_Wb_ring {G : zG} {n u : Nat} {μ : Nat → va_E} {κ : zκ} {kp : Int32} {ac : Value} (h : cst μ κ) (hob : isOb μ kp ac) (x : Int32) :
    zMet G 4 M_Wb_ring [.ref 4, .int x] n u μ n u (cK μ (f_ring κ x)) := by
  obtain ⟨S, mo, pr, fa, sc, ch, rc, D⟩ := κ
  have hst := h
  obtain ⟨h1, ⟨cs, q, h2⟩, ⟨β, its, h3, h3a, h3b⟩, ⟨c23, h4⟩, h5⟩ := h
  have hk5 := h5
  obtain ⟨hi, hx, hmo, hrc⟩ := h5
  have hi0 := hi.1
  have hi1 := hi.2.1
  have hi2 := hi.2.2.1
  have hi3 := hi.2.2.2.2.1
  refine z_start (lv := [.ref 4, .int x]) K_Wb_ring rfl rfl (Nat.le_refl _) (Nat.le_refl _) (Nat.le_of_ble_eq_true rfl) rfl ?_
  unfold isOb at hob
  refine z_mu (pcc_id h1 h2).symm ?_
  have hm16 : mo ≤ 16 := by omega
  refine z_al0 (pc' := 1) 0 rfl rfl ?_
  refine z_getf (pc' := 4) 1 rfl rfl f_Wb_10_11 (by first | exact pcc_5 | exact pcc_6 | exact pcc_7 | exact pcc_8 | exact pcc_9 | exact pcc_10 | exact pcc_11 | exact pcc_12 | exact pcc_13 | exact pcc_14 | exact pcc_15 | exact pcc_22 | (rw [pcc_o (by decide)]; assumption)) (by rfl) ?_
  refine z_il1 (pc' := 5) 2 rfl rfl ?_
  refine z_callV1 (pc' := 8) 3 rfl rfl k_Wb_84 (by first | exact pcc_5 | exact pcc_6 | exact pcc_7 | exact pcc_8 | exact pcc_9 | exact pcc_10 | exact pcc_11 | exact pcc_12 | exact pcc_13 | exact pcc_14 | exact pcc_15 | exact pcc_22 | (rw [pcc_o (by decide)]; assumption)) (c_Co_hasGirl isCo_pcc hi _) (by decide) (Nat.le_refl _) (Nat.le_refl _) rfl rfl (Nat.le_of_ble_eq_true rfl) ?_
  first | refine z_if_eqB (pc' := 11) 4 rfl rfl (tgt := 22) rfl (fun h8 => ?_) (fun h8 => ?_) | refine z_if_eqN (pc' := 11) 4 rfl rfl (tgt := 22) rfl (by omega) (fun h8 => ?_) (fun h8 => ?_) | refine z_if_eq (pc' := 11) 4 rfl rfl (tgt := 22) rfl (fun h8 => ?_) (fun h8 => ?_)
  · refine z_iconst (v := (-1)) (by decide) (pc' := 23) 10 rfl rfl ?_
    exact z_ireturn 11 rfl rfl (by first | rfl | exact zbo_nar) rfl rfl (by show cK μ _ _ _; rw [f_ring, if_neg h8]; exact cK_of hst rfl rfl (hk5))
  · obtain ⟨g, hg, rfl⟩ := z_in h8 (by omega)
    refine z_al0 (pc' := 12) 5 rfl rfl ?_
    refine z_getf (pc' := 15) 6 rfl rfl f_Wb_10_11 (by first | exact pcc_5 | exact pcc_6 | exact pcc_7 | exact pcc_8 | exact pcc_9 | exact pcc_10 | exact pcc_11 | exact pcc_12 | exact pcc_13 | exact pcc_14 | exact pcc_15 | exact pcc_22 | (rw [pcc_o (by decide)]; assumption)) (by rfl) ?_
    refine z_il1 (pc' := 16) 7 rfl rfl ?_
    refine z_callV1 (pc' := 19) 8 rfl rfl k_Wb_200 (by first | exact pcc_5 | exact pcc_6 | exact pcc_7 | exact pcc_8 | exact pcc_9 | exact pcc_10 | exact pcc_11 | exact pcc_12 | exact pcc_13 | exact pcc_14 | exact pcc_15 | exact pcc_22 | (rw [pcc_o (by decide)]; assumption)) (c_Co_ringOf hi hm16 hx hg) (by decide) (Nat.le_refl _) (Nat.le_refl _) rfl rfl (Nat.le_of_ble_eq_true rfl) ?_
    refine z_goto 9 rfl (tgt := 23) rfl ?_
    exact z_ireturn 11 rfl rfl (by first | rfl | exact zbo_nar) rfl rfl (by show cK μ _ _ _; rw [f_ring, if_pos h8, tN_n (by omega)]; exact cK_of hst rfl rfl (hk5))
set_option maxHeartbeats 4000000 in
set_option maxRecDepth 100000 in
theorem c_Mo_wouldSwap {G : zG} {n u : Nat} {ν : Nat → va_E} {s : Nat → Int32} {S : Nat → Nat → Nat} {mo : Nat} {pr fa : Nat → Nat} {sc ch : Int32} {rc : Nat} {ρ : Nat → Int32} (hi : iS S) (hm : mo ≤ 16) (hx : iX S pr fa) {a b : Nat} (ha : a < S 0 0) (hb : b < S 0 0) :
    zMet G 3 M_Mo_wouldSwap [.ref 88, .int (nI a), .int (nI b)] n u ((pm ν s (mk S mo pr fa sc ch rc ρ))) n u (zE (some (.int (zbo (swB S (hmo mo) pr a b = true)))) (pm ν s (mk S mo pr fa sc ch rc ρ))) := by
  refine z_start (lv := [.ref 88, .int (nI a), .int (nI b), .retAddr 0]) K_Mo_wouldSwap rfl rfl (Nat.le_refl _) (Nat.le_refl _) (Nat.le_of_ble_eq_true rfl) rfl ?_
  have hi0 := hi.1
  have hh := hmo_le (mo := mo)
  have hpa := (hx a).1
  have hpb := (hx b).1
  have hg1 := gS_lt hi (g := a) (w := pr a) (t := hmo mo)
  have hg2 := gS_lt hi (g := a) (w := pr b) (t := hmo mo)
  refine z_il1 (pc' := 1) 0 rfl rfl ?_
  refine z_il2 (pc' := 2) 1 rfl rfl ?_
  first | refine z_icmp_eqN (pc' := 5) 2 rfl rfl (tgt := 27) rfl (by omega) (by omega) (fun h2 => ?_) (fun h2 => ?_) | refine z_icmp_eq (pc' := 5) 2 rfl rfl (tgt := 27) rfl (fun h2 => ?_) (fun h2 => ?_)
  · refine z_iconst (v := nI 0) (by decide) (pc' := 28) 15 rfl rfl ?_
    refine z_is3 rfl rfl (pc' := 29) 16 rfl rfl ?_
    refine z_il3 (pc' := 30) 17 rfl rfl ?_
    refine z_if_eq_t 18 rfl (tgt := 70) rfl rfl ?_
    refine z_iconst (v := nI 0) (by decide) (pc' := 71) 40 rfl rfl ?_
    exact z_ireturn 41 rfl rfl (by first | rfl | exact zbo_nar) rfl rfl (by exact ⟨by rw [zbo_f (fun z => by have := swB_i.mp z; subst h2; omega)], rfl⟩)
  · refine z_al0 (pc' := 6) 3 rfl rfl ?_
    refine z_il1 (pc' := 7) 4 rfl rfl ?_
    refine z_iconst (v := nI 3) (by decide) (pc' := 8) 5 rfl rfl ?_
    refine z_callV1 (pc' := 11) 6 rfl rfl k_Mo_75 (by first | exact pm_f | exact pm_1) (c_Mo_of3 (by omega)) (by decide) (Nat.le_refl _) (Nat.le_refl _) rfl rfl (Nat.le_of_ble_eq_true rfl) ?_
    first | refine z_if_ltH (pc' := 14) 7 rfl rfl (tgt := 27) rfl hpa (fun h11 => ?_) (fun h11 => ?_) | refine z_if_ltN (pc' := 14) 7 rfl rfl (tgt := 27) rfl (by omega) (fun h11 => ?_) (fun h11 => ?_) | refine z_if_lt (pc' := 14) 7 rfl rfl (tgt := 27) rfl (fun h11 => ?_) (fun h11 => ?_)
    · refine z_iconst (v := nI 0) (by decide) (pc' := 28) 15 rfl rfl ?_
      refine z_is3 rfl rfl (pc' := 29) 16 rfl rfl ?_
      refine z_il3 (pc' := 30) 17 rfl rfl ?_
      refine z_if_eq_t 18 rfl (tgt := 70) rfl rfl ?_
      refine z_iconst (v := nI 0) (by decide) (pc' := 71) 40 rfl rfl ?_
      exact z_ireturn 41 rfl rfl (by first | rfl | exact zbo_nar) rfl rfl (by exact ⟨by rw [zbo_f (fun z => (swB_i.mp z).1 h11)], rfl⟩)
    · refine z_al0 (pc' := 15) 8 rfl rfl ?_
      refine z_il2 (pc' := 16) 9 rfl rfl ?_
      refine z_iconst (v := nI 3) (by decide) (pc' := 17) 10 rfl rfl ?_
      refine z_callV1 (pc' := 20) 11 rfl rfl k_Mo_75 (by first | exact pm_f | exact pm_1) (c_Mo_of3 (by omega)) (by decide) (Nat.le_refl _) (Nat.le_refl _) rfl rfl (Nat.le_of_ble_eq_true rfl) ?_
      first | refine z_if_ltH (pc' := 23) 12 rfl rfl (tgt := 27) rfl hpb (fun h20 => ?_) (fun h20 => ?_) | refine z_if_ltN (pc' := 23) 12 rfl rfl (tgt := 27) rfl (by omega) (fun h20 => ?_) (fun h20 => ?_) | refine z_if_lt (pc' := 23) 12 rfl rfl (tgt := 27) rfl (fun h20 => ?_) (fun h20 => ?_)
      · refine z_iconst (v := nI 0) (by decide) (pc' := 28) 15 rfl rfl ?_
        refine z_is3 rfl rfl (pc' := 29) 16 rfl rfl ?_
        refine z_il3 (pc' := 30) 17 rfl rfl ?_
        refine z_if_eq_t 18 rfl (tgt := 70) rfl rfl ?_
        refine z_iconst (v := nI 0) (by decide) (pc' := 71) 40 rfl rfl ?_
        exact z_ireturn 41 rfl rfl (by first | rfl | exact zbo_nar) rfl rfl (by exact ⟨by rw [zbo_f (fun z => (swB_i.mp z).2.1 h20)], rfl⟩)
      · refine z_iconst (v := nI 1) (by decide) (pc' := 24) 13 rfl rfl ?_
        refine z_goto 14 rfl (tgt := 28) rfl ?_
        refine z_is3 rfl rfl (pc' := 29) 16 rfl rfl ?_
        refine z_il3 (pc' := 30) 17 rfl rfl ?_
        refine z_if_eq_f (pc' := 33) 18 rfl rfl (tgt := 70) rfl (by decide) ?_
        skip
        refine z_al0 (pc' := 34) 19 rfl rfl ?_
        refine z_il1 (pc' := 35) 20 rfl rfl ?_
        refine z_al0 (pc' := 36) 21 rfl rfl ?_
        refine z_il2 (pc' := 37) 22 rfl rfl ?_
        refine z_iconst (v := nI 3) (by decide) (pc' := 38) 23 rfl rfl ?_
        refine z_callV1 (pc' := 41) 24 rfl rfl k_Mo_75 (by first | exact pm_f | exact pm_1) (c_Mo_of3 (by omega)) (by decide) (Nat.le_refl _) (Nat.le_refl _) rfl rfl (Nat.le_of_ble_eq_true rfl) ?_
        rw [hasI_n h20]
        refine z_al0 (pc' := 42) 25 rfl rfl ?_
        refine z_callV1 (pc' := 45) 26 rfl rfl k_Mo_233 (by first | exact pm_f | exact pm_1) (c_Mo_monthNow hm) (by decide) (Nat.le_refl _) (Nat.le_refl _) rfl rfl (Nat.le_of_ble_eq_true rfl) ?_
        refine z_callV1 (pc' := 48) 27 rfl rfl k_Mo_120 (by first | exact pm_f | exact pm_1) (c_Mo_gainOf hi (by omega) (by omega) (by omega)) (by decide) (Nat.le_refl _) (Nat.le_refl _) rfl rfl (Nat.le_of_ble_eq_true rfl) ?_
        refine z_al0 (pc' := 49) 28 rfl rfl ?_
        refine z_il1 (pc' := 50) 29 rfl rfl ?_
        refine z_al0 (pc' := 51) 30 rfl rfl ?_
        refine z_il1 (pc' := 52) 31 rfl rfl ?_
        refine z_iconst (v := nI 3) (by decide) (pc' := 53) 32 rfl rfl ?_
        refine z_callV1 (pc' := 56) 33 rfl rfl k_Mo_75 (by first | exact pm_f | exact pm_1) (c_Mo_of3 (by omega)) (by decide) (Nat.le_refl _) (Nat.le_refl _) rfl rfl (Nat.le_of_ble_eq_true rfl) ?_
        rw [hasI_n h11]
        refine z_al0 (pc' := 57) 34 rfl rfl ?_
        refine z_callV1 (pc' := 60) 35 rfl rfl k_Mo_233 (by first | exact pm_f | exact pm_1) (c_Mo_monthNow hm) (by decide) (Nat.le_refl _) (Nat.le_refl _) rfl rfl (Nat.le_of_ble_eq_true rfl) ?_
        refine z_callV1 (pc' := 63) 36 rfl rfl k_Mo_120 (by first | exact pm_f | exact pm_1) (c_Mo_gainOf hi (by omega) (by omega) (by omega)) (by decide) (Nat.le_refl _) (Nat.le_refl _) rfl rfl (Nat.le_of_ble_eq_true rfl) ?_
        first | refine z_icmp_leN (pc' := 66) 37 rfl rfl (tgt := 70) rfl (by omega) (by omega) (fun h63 => ?_) (fun h63 => ?_) | refine z_icmp_le (pc' := 66) 37 rfl rfl (tgt := 70) rfl (fun h63 => ?_) (fun h63 => ?_)
        · refine z_iconst (v := nI 0) (by decide) (pc' := 71) 40 rfl rfl ?_
          exact z_ireturn 41 rfl rfl (by first | rfl | exact zbo_nar) rfl rfl (by exact ⟨by rw [zbo_f (fun z => by have := swB_i.mp z; omega)], rfl⟩)
        · refine z_iconst (v := nI 1) (by decide) (pc' := 67) 38 rfl rfl ?_
          refine z_goto 39 rfl (tgt := 71) rfl ?_
          exact z_ireturn 41 rfl rfl (by first | rfl | exact zbo_nar) rfl rfl (by exact ⟨by rw [zbo_t (swB_i.mpr ⟨h11, h20, h63⟩)], rfl⟩)
set_option maxHeartbeats 4000000 in
set_option maxRecDepth 100000 in
theorem l_Mo_ring1 {G : zG} {n u : Nat} {ν : Nat → va_E} {s : Nat → Int32} {S : Nat → Nat → Nat} {mo : Nat} {pr fa : Nat → Nat} {sc ch : Int32} {rc : Nat} {ρ : Nat → Int32} (hi : iS S) (hm : mo ≤ 16) (hx : iX S pr fa) {g s9 L a : Nat} (hL : L < 64) (ha : a < S 0 0) {Φ : zP} : ∀ j k c, k + j = S 0 0 → c < 64 → (zW G 4 M_Mo_ring 93 [.ref 88, .int (nI g), .int (nI L), .int (nI s9), .int (nI (if L / 2 ^ a % 2 = 1 then enA S (hmo mo) pr a j k c else c)), .int (nI a), .int (nI (S 0 0))] [] n u (pm ν s (mk S mo pr fa sc ch rc ρ)) n u Φ) →
    zW G 4 M_Mo_ring 42 [.ref 88, .int (nI g), .int (nI L), .int (nI s9), .int (nI c), .int (nI a), .int (nI k)] [] n u (pm ν s (mk S mo pr fa sc ch rc ρ)) n u Φ
  | 0, k, c, e, hc, K => by
    obtain rfl : k = S 0 0 := by omega
    have K' := K
    rw [show (if L / 2 ^ a % 2 = 1 then enA S (hmo mo) pr a 0 (S 0 0) c else c) = c from by split <;> rfl] at K'
    have hi0 := hi.1
    have hh := hmo_le (mo := mo)
    refine z_il6 (pc' := 44) 27 rfl rfl ?_
    refine z_al0 (pc' := 45) 28 rfl rfl ?_
    refine z_getf (pc' := 48) 29 rfl rfl f_Mo_9_12 (by first | exact pm_f | exact pm_1) (by rfl) ?_
    refine z_iconst (v := nI 3) (by decide) (pc' := 49) 30 rfl rfl ?_
    refine z_iald (pc' := 50) 31 rfl rfl (by first | exact pm_f | exact pm_1) (by omega) (by decide) ?_
    rw [mk_3]
    first | refine z_icmp_geN (pc' := 53) 32 rfl rfl (tgt := 93) rfl (by omega) (by omega) (fun h50 => ?_) (fun h50 => ?_) | refine z_icmp_ge (pc' := 53) 32 rfl rfl (tgt := 93) rfl (fun h50 => ?_) (fun h50 => ?_)
    · exact K'
    · exfalso; omega
  | j + 1, k, c, e, hc, K => by
    have hi0 := hi.1
    have hh := hmo_le (mo := mo)
    refine z_il6 (pc' := 44) 27 rfl rfl ?_
    refine z_al0 (pc' := 45) 28 rfl rfl ?_
    refine z_getf (pc' := 48) 29 rfl rfl f_Mo_9_12 (by first | exact pm_f | exact pm_1) (by rfl) ?_
    refine z_iconst (v := nI 3) (by decide) (pc' := 49) 30 rfl rfl ?_
    refine z_iald (pc' := 50) 31 rfl rfl (by first | exact pm_f | exact pm_1) (by omega) (by decide) ?_
    rw [mk_3]
    first | refine z_icmp_geN (pc' := 53) 32 rfl rfl (tgt := 93) rfl (by omega) (by omega) (fun h50 => ?_) (fun h50 => ?_) | refine z_icmp_ge (pc' := 53) 32 rfl rfl (tgt := 93) rfl (fun h50 => ?_) (fun h50 => ?_)
    · exfalso; omega
    · refine z_il4 (pc' := 55) 33 rfl rfl ?_
      refine z_il2 (pc' := 56) 34 rfl rfl ?_
      refine z_il5 (pc' := 58) 35 rfl rfl ?_
      refine z_ishr (pc' := 59) 36 rfl rfl ?_
      refine z_iconst (v := nI 1) (by decide) (pc' := 60) 37 rfl rfl ?_
      refine z_iand (pc' := 61) 38 rfl rfl ?_
      rw [nb_bit (by omega) (by omega)]
      refine z_iconst (v := nI 1) (by decide) (pc' := 62) 39 rfl rfl ?_
      first | refine z_icmp_neN (pc' := 65) 40 rfl rfl (tgt := 83) rfl (by omega) (by omega) (fun h62 => ?_) (fun h62 => ?_) | refine z_icmp_ne (pc' := 65) 40 rfl rfl (tgt := 83) rfl (fun h62 => ?_) (fun h62 => ?_)
      · refine z_iconst (v := nI 0) (by decide) (pc' := 84) 50 rfl rfl ?_
        refine z_ior (pc' := 85) 51 rfl rfl ?_
        rw [nb_or, Nat.or_zero]
        refine z_is4 rfl rfl (pc' := 87) 52 rfl rfl ?_
        first | refine z_inc6N rfl rfl (pc' := 90) 53 rfl rfl ?_ | refine z_inc6 rfl rfl rfl (pc' := 90) 53 rfl rfl ?_
        refine z_goto 54 rfl (tgt := 42) rfl ?_
        refine l_Mo_ring1 hi hm hx hL ha j (k + 1) _ (by omega) hc ?_
        rw [if_neg h62] at K ⊢
        exact K
      · refine z_al0 (pc' := 66) 41 rfl rfl ?_
        refine z_il5 (pc' := 68) 42 rfl rfl ?_
        refine z_il6 (pc' := 70) 43 rfl rfl ?_
        refine z_callV1 (pc' := 73) 44 rfl rfl k_Mo_251 (by first | exact pm_f | exact pm_1) (c_Mo_wouldSwap hi hm hx ha (by omega)) (by decide) (Nat.le_refl _) (Nat.le_refl _) rfl rfl (Nat.le_of_ble_eq_true rfl) ?_
        first | refine z_if_eqB (pc' := 76) 45 rfl rfl (tgt := 83) rfl (fun h73 => ?_) (fun h73 => ?_) | refine z_if_eqN (pc' := 76) 45 rfl rfl (tgt := 83) rfl (by omega) (fun h73 => ?_) (fun h73 => ?_) | refine z_if_eq (pc' := 76) 45 rfl rfl (tgt := 83) rfl (fun h73 => ?_) (fun h73 => ?_)
        · refine z_iconst (v := nI 0) (by decide) (pc' := 84) 50 rfl rfl ?_
          refine z_ior (pc' := 85) 51 rfl rfl ?_
          rw [nb_or, Nat.or_zero]
          refine z_is4 rfl rfl (pc' := 87) 52 rfl rfl ?_
          first | refine z_inc6N rfl rfl (pc' := 90) 53 rfl rfl ?_ | refine z_inc6 rfl rfl rfl (pc' := 90) 53 rfl rfl ?_
          refine z_goto 54 rfl (tgt := 42) rfl ?_
          refine l_Mo_ring1 hi hm hx hL ha j (k + 1) _ (by omega) hc ?_
          rw [if_pos h62] at K ⊢
          rw [show enA S (hmo mo) pr a (j + 1) k c = enA S (hmo mo) pr a j (k + 1) c by
            show enA S (hmo mo) pr a j (k + 1) (if swB S (hmo mo) pr a k = true then c ||| 2 ^ k else c) = _
            rw [if_neg h73]] at K
          exact K
        · refine z_iconst (v := nI 1) (by decide) (pc' := 77) 46 rfl rfl ?_
          refine z_il6 (pc' := 79) 47 rfl rfl ?_
          refine z_ishl (pc' := 80) 48 rfl rfl ?_
          rw [nb_shl1 (by omega)]
          refine z_goto 49 rfl (tgt := 84) rfl ?_
          refine z_ior (pc' := 85) 51 rfl rfl ?_
          rw [nb_or]
          refine z_is4 rfl rfl (pc' := 87) 52 rfl rfl ?_
          first | refine z_inc6N rfl rfl (pc' := 90) 53 rfl rfl ?_ | refine z_inc6 rfl rfl rfl (pc' := 90) 53 rfl rfl ?_
          refine z_goto 54 rfl (tgt := 42) rfl ?_
          refine l_Mo_ring1 hi hm hx hL ha j (k + 1) _ (by omega) (Nat.or_lt_two_pow (n := 6) hc (Nat.pow_lt_pow_right (by decide) (by omega))) ?_
          rw [if_pos h62] at K ⊢
          rw [show enA S (hmo mo) pr a (j + 1) k c = enA S (hmo mo) pr a j (k + 1) (c ||| 2 ^ k) by
            show enA S (hmo mo) pr a j (k + 1) (if swB S (hmo mo) pr a k = true then c ||| 2 ^ k else c) = _
            rw [if_pos h73]] at K
          exact K
set_option maxHeartbeats 4000000 in
set_option maxRecDepth 100000 in
theorem l_Mo_ring2 {G : zG} {n u : Nat} {ν : Nat → va_E} {s : Nat → Int32} {S : Nat → Nat → Nat} {mo : Nat} {pr fa : Nat → Nat} {sc ch : Int32} {rc : Nat} {ρ : Nat → Int32} (hi : iS S) (hm : mo ≤ 16) (hx : iX S pr fa) {g s9 L : Nat} (hL : L < 64) {Φ : zP} : ∀ j k c, k + j = S 0 0 → c < 64 → (∀ v, zW G 4 M_Mo_ring 99 [.ref 88, .int (nI g), .int (nI L), .int (nI s9), .int (nI (nxA S (hmo mo) pr L j k c)), .int (nI (S 0 0)), v] [] n u (pm ν s (mk S mo pr fa sc ch rc ρ)) n u Φ) →
    zW G 4 M_Mo_ring 28 [.ref 88, .int (nI g), .int (nI L), .int (nI s9), .int (nI c), .int (nI k), .retAddr 0] [] n u (pm ν s (mk S mo pr fa sc ch rc ρ)) n u Φ
  | 0, k, c, e, hc, K => by
    obtain rfl : k = S 0 0 := by omega
    have hi0 := hi.1
    have hh := hmo_le (mo := mo)
    refine z_il5 (pc' := 30) 19 rfl rfl ?_
    refine z_al0 (pc' := 31) 20 rfl rfl ?_
    refine z_getf (pc' := 34) 21 rfl rfl f_Mo_9_12 (by first | exact pm_f | exact pm_1) (by rfl) ?_
    refine z_iconst (v := nI 3) (by decide) (pc' := 35) 22 rfl rfl ?_
    refine z_iald (pc' := 36) 23 rfl rfl (by first | exact pm_f | exact pm_1) (by omega) (by decide) ?_
    rw [mk_3]
    first | refine z_icmp_geN (pc' := 39) 24 rfl rfl (tgt := 99) rfl (by omega) (by omega) (fun h36 => ?_) (fun h36 => ?_) | refine z_icmp_ge (pc' := 39) 24 rfl rfl (tgt := 99) rfl (fun h36 => ?_) (fun h36 => ?_)
    · exact K _
    · exfalso; omega
  | j + 1, k, c, e, hc, K => by
    have hi0 := hi.1
    have hh := hmo_le (mo := mo)
    refine z_il5 (pc' := 30) 19 rfl rfl ?_
    refine z_al0 (pc' := 31) 20 rfl rfl ?_
    refine z_getf (pc' := 34) 21 rfl rfl f_Mo_9_12 (by first | exact pm_f | exact pm_1) (by rfl) ?_
    refine z_iconst (v := nI 3) (by decide) (pc' := 35) 22 rfl rfl ?_
    refine z_iald (pc' := 36) 23 rfl rfl (by first | exact pm_f | exact pm_1) (by omega) (by decide) ?_
    rw [mk_3]
    first | refine z_icmp_geN (pc' := 39) 24 rfl rfl (tgt := 99) rfl (by omega) (by omega) (fun h36 => ?_) (fun h36 => ?_) | refine z_icmp_ge (pc' := 39) 24 rfl rfl (tgt := 99) rfl (fun h36 => ?_) (fun h36 => ?_)
    · exfalso; omega
    · refine z_iconst (v := nI 0) (by decide) (pc' := 40) 25 rfl rfl ?_
      refine z_is6 rfl rfl (pc' := 42) 26 rfl rfl ?_
      refine l_Mo_ring1 hi hm hx hL (by omega) (S 0 0) 0 c (by omega) hc ?_
      rw [enA_or]
      first | refine z_inc5N rfl rfl (pc' := 96) 55 rfl rfl ?_ | refine z_inc5 rfl rfl rfl (pc' := 96) 55 rfl rfl ?_
      refine z_goto 56 rfl (tgt := 28) rfl ?_
      refine z_less6 ?_
      exact l_Mo_ring2 hi hm hx hL j (k + 1) _ (by omega) (by split; exact Nat.or_lt_two_pow (n := 6) hc (enA_lt _ _ _ (by omega) (by decide)); exact hc) K
set_option maxHeartbeats 4000000 in
set_option maxRecDepth 100000 in
theorem l_Mo_ring3 {G : zG} {n u : Nat} {ν : Nat → va_E} {s : Nat → Int32} {S : Nat → Nat → Nat} {mo : Nat} {pr fa : Nat → Nat} {sc ch : Int32} {rc : Nat} {ρ : Nat → Int32} (hi : iS S) (hm : mo ≤ 16) (hx : iX S pr fa) {g : Nat} (hg : g < S 0 0) {Φ : zP} : ∀ j k, k + j = 6 → (Φ (some (.int (rgN S (hmo mo) pr g j k))) (pm ν s (mk S mo pr fa sc ch rc ρ))) →
    zW G 4 M_Mo_ring 16 [.ref 88, .int (nI g), .int (nI (rgL S (hmo mo) pr g k)), .int (nI (k + 1)), .retAddr 0, .retAddr 0, .retAddr 0] [] n u (pm ν s (mk S mo pr fa sc ch rc ρ)) n u Φ
  | 0, k, e, K => by
    have hi0 := hi.1
    have hh := hmo_le (mo := mo)
    refine z_il3 (pc' := 17) 12 rfl rfl ?_
    refine z_bipush (v := nI 6) (by decide) (pc' := 19) 13 rfl rfl ?_
    first | refine z_icmp_gtN (pc' := 22) 14 rfl rfl (tgt := 120) rfl (by omega) (by omega) (fun h19 => ?_) (fun h19 => ?_) | refine z_icmp_gt (pc' := 22) 14 rfl rfl (tgt := 120) rfl (fun h19 => ?_) (fun h19 => ?_)
    · refine z_bipush (v := (-3)) (by decide) (pc' := 122) 70 rfl rfl ?_
      exact z_ireturn 71 rfl rfl (by first | rfl | exact zbo_nar) rfl rfl (by exact K)
    · exfalso; omega
  | j + 1, k, e, K => by
    have hi0 := hi.1
    have hh := hmo_le (mo := mo)
    have hl := rgL_lt (S := S) (t := hmo mo) (pr := pr) (g := g) hi0 (by omega) k
    have hl2 := rgL_lt (S := S) (t := hmo mo) (pr := pr) (g := g) hi0 (by omega) (k + 1)
    refine z_il3 (pc' := 17) 12 rfl rfl ?_
    refine z_bipush (v := nI 6) (by decide) (pc' := 19) 13 rfl rfl ?_
    first | refine z_icmp_gtN (pc' := 22) 14 rfl rfl (tgt := 120) rfl (by omega) (by omega) (fun h19 => ?_) (fun h19 => ?_) | refine z_icmp_gt (pc' := 22) 14 rfl rfl (tgt := 120) rfl (fun h19 => ?_) (fun h19 => ?_)
    · exfalso; omega
    · refine z_iconst (v := nI 0) (by decide) (pc' := 23) 15 rfl rfl ?_
      refine z_is4 rfl rfl (pc' := 25) 16 rfl rfl ?_
      refine z_iconst (v := nI 0) (by decide) (pc' := 26) 17 rfl rfl ?_
      refine z_is5 rfl rfl (pc' := 28) 18 rfl rfl ?_
      refine l_Mo_ring2 hi hm hx hl (S 0 0) 0 0 (by omega) (by decide) (fun v9 => ?_)
      rw [show nxA S (hmo mo) pr (rgL S (hmo mo) pr g k) (S 0 0) 0 0 = rgL S (hmo mo) pr g (k + 1) from rfl]
      refine z_il4 (pc' := 101) 57 rfl rfl ?_
      refine z_il1 (pc' := 102) 58 rfl rfl ?_
      refine z_ishr (pc' := 103) 59 rfl rfl ?_
      refine z_iconst (v := nI 1) (by decide) (pc' := 104) 60 rfl rfl ?_
      refine z_iand (pc' := 105) 61 rfl rfl ?_
      rw [nb_bit (by omega) (by omega)]
      refine z_iconst (v := nI 1) (by decide) (pc' := 106) 62 rfl rfl ?_
      first | refine z_icmp_neN (pc' := 109) 63 rfl rfl (tgt := 111) rfl (by omega) (by omega) (fun h106 => ?_) (fun h106 => ?_) | refine z_icmp_ne (pc' := 109) 63 rfl rfl (tgt := 111) rfl (fun h106 => ?_) (fun h106 => ?_)
      · refine z_il4 (pc' := 113) 66 rfl rfl ?_
        refine z_is2 rfl rfl (pc' := 114) 67 rfl rfl ?_
        first | refine z_inc3N rfl rfl (pc' := 117) 68 rfl rfl ?_ | refine z_inc3 rfl rfl rfl (pc' := 117) 68 rfl rfl ?_
        refine z_goto 69 rfl (tgt := 16) rfl ?_
        refine z_less4 ?_
        refine z_less5 ?_
        refine z_less6 ?_
        refine l_Mo_ring3 hi hm hx hg j (k + 1) (by omega) ?_
        rw [show rgN S (hmo mo) pr g (j + 1) k = rgN S (hmo mo) pr g j (k + 1) from if_neg h106] at K
        exact K
      · refine z_il3 (pc' := 110) 64 rfl rfl ?_
        exact z_ireturn 65 rfl rfl (by first | rfl | exact zbo_nar) rfl rfl (by rw [show rgN S (hmo mo) pr g (j + 1) k = nI (k + 1) from if_pos h106] at K; exact K)
set_option maxHeartbeats 4000000 in
set_option maxRecDepth 100000 in
theorem c_Mo_ring {G : zG} {n u : Nat} {μ : Nat → va_E} {κ : zκ} {s : Nat → Int32} (h : mst μ s κ) (x : Int32) :
    zMet G 4 M_Mo_ring [.ref 88, .int x] n u μ n u (mK μ s (f_ring κ x)) := by
  obtain ⟨S, mo, pr, fa, sc, ch, rc, D⟩ := κ
  have hst := h
  obtain ⟨⟨ρ, h1, hD⟩, h2, ⟨q93, h93⟩, ⟨q91, h91⟩, ⟨q94, h94⟩, ⟨q95, h95⟩, ⟨q96, h96⟩, ⟨q97, h97⟩, h5⟩ := h
  have hk5 := h5
  obtain ⟨hi, hx, hmo, hrc⟩ := h5
  have hi0 := hi.1
  have hi1 := hi.2.1
  have hi2 := hi.2.2.1
  have hi3 := hi.2.2.2.2.1
  have hm16 : mo ≤ 16 := by omega
  refine z_start (lv := [.ref 88, .int x, .retAddr 0, .retAddr 0, .retAddr 0, .retAddr 0, .retAddr 0]) K_Mo_ring rfl rfl (Nat.le_refl _) (Nat.le_refl _) (Nat.le_of_ble_eq_true rfl) rfl ?_
  refine z_mu (show μ = pm (zu (zu μ 91 (.inl (0, 618, .inl q91))) 93 (.inl (1, 100, .inl q93))) s (mk S mo pr fa sc ch rc ρ) by rw [zu_id h91, zu_id h93, pm_id h2 h1]) ?_
  refine z_al0 (pc' := 1) 0 rfl rfl ?_
  refine z_il1 (pc' := 2) 1 rfl rfl ?_
  refine z_callV1 (pc' := 5) 2 rfl rfl k_Mo_92 (by first | exact pm_f | exact pm_1 | (rw [pm_o (by decide)]; first | exact zu_s | (rw [zu_n (by decide)]; first | exact zu_s | (rw [zu_n (by decide)]; assumption)))) (c_Mo_isGirl hi _) (by decide) (Nat.le_refl _) (Nat.le_refl _) rfl rfl (Nat.le_of_ble_eq_true rfl) ?_
  first | refine z_if_neB (pc' := 8) 3 rfl rfl (tgt := 10) rfl (fun h5 => ?_) (fun h5 => ?_) | refine z_if_neN (pc' := 8) 3 rfl rfl (tgt := 10) rfl (by omega) (fun h5 => ?_) (fun h5 => ?_) | refine z_if_ne (pc' := 8) 3 rfl rfl (tgt := 10) rfl (fun h5 => ?_) (fun h5 => ?_)
  · obtain ⟨g, hg, rfl⟩ := z_in h5 (by omega)
    refine z_iconst (v := nI 1) (by decide) (pc' := 11) 6 rfl rfl ?_
    refine z_il1 (pc' := 12) 7 rfl rfl ?_
    refine z_ishl (pc' := 13) 8 rfl rfl ?_
    rw [nb_shl1 (by omega)]
    refine z_is2 rfl rfl (pc' := 14) 9 rfl rfl ?_
    refine z_iconst (v := nI 1) (by decide) (pc' := 15) 10 rfl rfl ?_
    refine z_is3 rfl rfl (pc' := 16) 11 rfl rfl ?_
    refine l_Mo_ring3 hi hm16 hx hg 6 0 (by omega) ?_
    rw [rgN_6 hg hi0]
    show mK μ s _ _ _; rw [f_ring, if_pos h5, tN_n (by omega)]; exact mK_of3 hst (sEq_r) hD (hk5)
  · refine z_iconst (v := (-1)) (by decide) (pc' := 9) 4 rfl rfl ?_
    exact z_ireturn 5 rfl rfl (by first | rfl | exact zbo_nar) rfl rfl (by show mK μ s _ _ _; rw [f_ring, if_neg h5]; exact mK_of3 hst (sEq_r) hD (hk5))
