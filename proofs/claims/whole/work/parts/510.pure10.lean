/-! lowest terms; thoughts of one -/
theorem gcd2 (ko1 : Int64 → Int64 → Int32 → Option Int64) (ko2 : Int64 → Int64 → Option Int64) : ∀ (k b a j n1 n2 : Nat), b < 2 ^ k → k ≤ 63 → a < 2 ^ 63 → j + 2 * k < 200 → 2 * k < n1 → 2 * k < n2 → ∃ g j' : Nat, g < 2 ^ 63 ∧ (0 < a ∨ 0 < b → 0 < g) ∧ LX10_lowest_9 ko1 n1 (lN a) (lN b) (nI j) = ko1 (lN g) 0 (nI j') ∧ LX11_divisor_6 ko2 n2 (lN a) (lN b) = ko2 (lN g) 0 := by
  intro k
  have lt200 : ∀ j, j < 200 → ¬ (200 : Int32) ≤ nI j := fun j hj => nI_ge (a := j) (b := 200) hj (by decide)
  induction k with
  | zero =>
    intro b a j n1 n2 hb hk ha hj h1 h2
    obtain ⟨m1, rfl⟩ : ∃ m, n1 = m + 1 := ⟨n1 - 1, by omega⟩
    obtain ⟨m2, rfl⟩ : ∃ m, n2 = m + 1 := ⟨n2 - 1, by omega⟩
    have : b = 0 := by omega
    subst this
    refine ⟨a, j, ha, fun q => by omega, ?_, ?_⟩
    · rw [LX10_lowest_9_s, if_neg (lt200 j (by omega)), if_pos (by decide)]; rfl
    · rw [LX11_divisor_6_s, if_pos (by decide)]; rfl
  | succ k ih =>
    intro b a j n1 n2 hb hk ha hj h1 h2
    obtain ⟨m1, rfl⟩ : ∃ m, n1 = m + 1 := ⟨n1 - 1, by omega⟩
    obtain ⟨m2, rfl⟩ : ∃ m, n2 = m + 1 := ⟨n2 - 1, by omega⟩
    have hb63 : b < 2 ^ 63 := Nat.lt_of_lt_of_le hb (Nat.pow_le_pow_right (by decide) hk)
    by_cases hb0 : b = 0
    · subst hb0
      refine ⟨a, j, ha, fun q => by omega, ?_, ?_⟩
      · rw [LX10_lowest_9_s, if_neg (lt200 j (by omega)), if_pos (by decide)]; rfl
      · rw [LX11_divisor_6_s, if_pos (by decide)]; rfl
    · have bz : ¬ lN b = 0 := fun q => hb0 ((pk_lEQ (b := 0) hb63 (by decide)).mp q)
      have e1 : LX10_lowest_9 ko1 (m1 + 1) (lN a) (lN b) (nI j) = LX10_lowest_9 ko1 m1 (lN b) (lN (a % b)) (nI (j + 1)) := by
        rw [LX10_lowest_9_s, if_neg (lt200 j (by omega)), if_neg (fun q => hb0 ((lgz hb63).mp q)), nzl_ok bz, lt_eq, lt_eq, nI_1, pk_lRem ha (by omega) hb63]
      have e2 : LX11_divisor_6 ko2 (m2 + 1) (lN a) (lN b) = LX11_divisor_6 ko2 m2 (lN b) (lN (a % b)) := by
        rw [LX11_divisor_6_s, if_neg (fun q => hb0 ((lgz hb63).mp q)), nzl_ok bz, lt_eq, pk_lRem ha (by omega) hb63]
      rw [e1, e2]
      have hr : a % b < b := Nat.mod_lt _ (by omega)
      obtain ⟨m3, rfl⟩ : ∃ m, m1 = m + 1 := ⟨m1 - 1, by omega⟩
      obtain ⟨m4, rfl⟩ : ∃ m, m2 = m + 1 := ⟨m2 - 1, by omega⟩
      generalize a % b = r at hr
      by_cases hr0 : r = 0
      · subst hr0
        refine ⟨b, j + 1, hb63, fun q => by omega, ?_, ?_⟩
        · rw [LX10_lowest_9_s, if_neg (lt200 _ (by omega)), if_pos (by decide)]; rfl
        · rw [LX11_divisor_6_s, if_pos (by decide)]; rfl
      · have hr63 : r < 2 ^ 63 := by omega
        have rz : ¬ lN r = 0 := fun q => hr0 ((pk_lEQ (b := 0) hr63 (by decide)).mp q)
        have e3 : LX10_lowest_9 ko1 (m3 + 1) (lN b) (lN r) (nI (j + 1)) = LX10_lowest_9 ko1 m3 (lN r) (lN (b % r)) (nI (j + 2)) := by
          rw [LX10_lowest_9_s, if_neg (lt200 _ (by omega)), if_neg (fun q => hr0 ((lgz hr63).mp q)), nzl_ok rz, lt_eq, lt_eq, nI_1, pk_lRem hb63 (by omega) hr63]
        have e4 : LX11_divisor_6 ko2 (m4 + 1) (lN b) (lN r) = LX11_divisor_6 ko2 m4 (lN r) (lN (b % r)) := by
          rw [LX11_divisor_6_s, if_neg (fun q => hr0 ((lgz hr63).mp q)), nzl_ok rz, lt_eq, pk_lRem hb63 (by omega) hr63]
        rw [e3, e4]
        have hs : b % r < 2 ^ k := by
          have q1 : b % r < r := Nat.mod_lt _ (by omega)
          have q2 : r * (b / r) + b % r = b := Nat.div_add_mod b r
          have q3 : 1 ≤ b / r := (Nat.one_le_div_iff (by omega)).mpr (by omega)
          have q4 : r * 1 ≤ r * (b / r) := Nat.mul_le_mul_left r q3
          rw [Nat.pow_succ] at hb
          omega
        obtain ⟨g, j', a1, a2, a3, a4⟩ := ih (b % r) r (j + 2) m3 m4 hs (by omega) hr63 (by omega) (by omega) (by omega)
        exact ⟨g, j', a1, fun _ => a2 (Or.inl (by omega)), a3, a4⟩
theorem low2 {a b : Nat} (ha : a < 2 ^ 63) (hb : b < 2 ^ 63) (hb0 : 0 < b) (p2 : Int32) : ∃ r, f_X10_lowest (lN a) (lN b) p2 = some r ∧ f_X11_lowest (lN a) (lN b) p2 = some r := by
  unfold f_X10_lowest f_X11_lowest f_X11_divisor
  obtain ⟨g, j', g1, g2, e1, e2⟩ := gcd2 (fun x4 _ _ => if (lg_cmp x4 (0 : Int64)) = 0 then some ((0 : Int64)) else (if p2 = 0 then some (lN a) else some (lN b) : Option (Int64)).bind fun q13 => nzl (x4) <| some ((q13 / x4))) (fun x3 _ => some x3) 63 b a 0 FU FU hb (by omega) ha (by omega) (fu_lt (by omega)) (fu_lt (by omega))
  have g0 := g2 (Or.inr hb0)
  have gz : ¬ lN g = 0 := fun q => by
    have := (pk_lEQ (b := 0) g1 (by decide)).mp q
    omega
  rw [nI_0] at e1
  rw [e1, e2, sb', if_neg (fun q => by have := (lgz g1).mp q; omega), ib, nzl_ok gz, nzl_ok gz, nzl_ok gz]
  by_cases h : p2 = 0
  · simp only [if_pos h]; exact ⟨_, rfl, rfl⟩
  · simp only [if_neg h]; exact ⟨_, rfl, rfl⟩
theorem sr_lt (th : Int32) (lk : Nat → Int32) : srN th lk < 4096 := bs_lt _ 12
theorem sr_bit {th : Int32} {lk : Nat → Int32} {v : Nat} (h : (srN th lk).testBit v = true) : v < 12 ∧ hb th v = true ∧ ¬ lk v ≤ 0 := by
  unfold srN at h
  rw [bs_bit] at h
  simp only [srF, Bool.and_eq_true, decide_eq_true_eq] at h
  exact ⟨h.1, h.2.1, h.2.2⟩
theorem isrc {th : Int32} {lk : Nat → Int32} (p : Int32) : (f_X10_isSource p th (nI (srN th lk)) = some 0 ∧ f_X11_isSource p lk th = some 0) ∨ ∃ v, v < 12 ∧ p = nI v ∧ (srN th lk).testBit v = true ∧ hb th v = true ∧ f_X10_isSource p th (nI (srN th lk)) = some 1 ∧ f_X11_isSource p lk th = some 1 := by
  unfold f_X10_isSource f_X11_isSource
  have hl := sr_lt th lk
  rw [there10, sb', inI p 0 11 (B := 0) (C := 11) rfl rfl, sb', src11, sb']
  by_cases h : isN th p = true
  · obtain ⟨v, hv, rfl, hbv⟩ := isN_of h
    have h1 : 0 ≤ nI v ∧ nI v ≤ 11 := ⟨nI_pos' (by omega), nI_le (b := 11) (by omega) (by decide)⟩
    rw [if_pos h, if_neg one_ne, if_pos h1, if_neg one_ne, has10, has11, sb', hb_nI (by omega) (by omega)]
    cases hs : (srN th lk).testBit v with
    | true => exact Or.inr ⟨v, hv, rfl, hs, hbv, rfl, rfl⟩
    | false => exact Or.inl ⟨rfl, rfl⟩
  · rw [if_neg h, if_pos rfl]
    refine Or.inl ⟨rfl, ?_⟩
    by_cases h1 : 0 ≤ p ∧ p ≤ 11
    · obtain ⟨v, hv, rfl⟩ := rg_of (B := 11) (by decide) h1
      rw [if_pos h1, if_neg one_ne, has11, sb', hb_nI (by omega) (by omega)]
      cases hs : (srN th lk).testBit v with
      | true => exact absurd (by rw [isN_nI (by omega)]; exact (sr_bit hs).2.1) h
      | false => rfl
    · rw [if_neg h1]; rfl
def gd (o : Option Int64) : Int64 := o.getD 0
def sx (a : Int64) (w : Nat → Int64) : Nat → Int64
  | 0 => a
  | n + 1 => sx a w n + w n
theorem sx_bd {a : Int64} {w : Nat → Int64} (B : Nat) (ha : ∃ k, k ≤ B ∧ a = lN k) : ∀ n, (∀ v, v < n → ∃ k, k ≤ B ∧ w v = lN k) → ∃ k, k ≤ B * (n + 1) ∧ sx a w n = lN k
  | 0, _ => by rw [Nat.zero_add, Nat.mul_one]; exact ha
  | n + 1, h => by
    obtain ⟨k, h1, h2⟩ := sx_bd B ha n (fun v hv => h v (by omega))
    obtain ⟨j, h3, h4⟩ := h n (by omega)
    refine ⟨k + j, ?_, ?_⟩
    · rw [Nat.mul_succ]; omega
    · rw [sx, h2, h4, lN_add]
def C1 (th bl : Int32) (md mi go fl lk st fr to rn te fy fn fd : Nat → Int32) (n : Nat) (no al : Int64) (one : Nat → Int64) : Prop := no = (gd (f_X11_thoughtOf (-1) md mi go fl lk st fr to rn te fy fn fd th bl (nI n))) ∧ (∀ v, v < 12 → one v = (fun v => if (srN th lk).testBit v = true then gd (f_X11_thoughtOf (nI v) md mi go fl lk st fr to rn te fy fn fd th bl (nI n)) else 0) v) ∧ al = sx (gd (f_X11_thoughtOf (-1) md mi go fl lk st fr to rn te fy fn fd th bl (nI n))) (fun v => if (srN th lk).testBit v = true then gd (f_X11_thoughtOf (nI v) md mi go fl lk st fr to rn te fy fn fd th bl (nI n)) else 0) 12
section
variable {th bl : Int32} {md mi go fl lk st fr to rn te fy fn fd wg : Nat → Int32} {sL sT : Nat → Nat → Int32} {sF sU fC fS fM fT fY : Nat → Int32} {n : Nat}
theorem t_0 (hT : Tree th md) (hm : Bd mi 12 99) (hfr : Bd fr 12 23) (hto : Bd to 12 23) (hte : ∀ c, c < 4 → ∃ k, 1 ≤ k ∧ k ≤ 9999 ∧ te c = nI k) (hfy : Bd fy 4 9) (hfn : Bd fn 4 9) (hW : Wat th md mi go fl st fr to wg sL sT sF sU) (hF : Fnd fC fS fM fT fY fd n) (hlk : Bd lk 12 99) (hbl : ∃ k, k ≤ 99 ∧ bl = nI k) : ∃ b, b ≤ 990000000000 ∧ f_X6_thoughtBy (Int32.toInt64 bl) none none rn te fy fn wg (nI n) sL sT sF sU fC fS fM fT fY = some (lN b) ∧ f_X11_thoughtOf (-1) md mi go fl lk st fr to rn te fy fn fd th bl (nI n) = some (lN b) := by
  obtain ⟨k, hk, rfl⟩ := hbl
  obtain ⟨b, b1, b2, b3⟩ := tho2 hF.1 (q_0 hT hm hfr hto hte hfy hfn hW hF) (a := k) (by omega)
  refine ⟨b, by omega, ?_, ?_⟩
  · rw [nI_l (by omega)]; exact b2
  · unfold f_X11_thoughtOf
    rw [if_pos rfl, nI_l (by omega), b3]; rfl
theorem t_1 (hT : Tree th md) (hm : Bd mi 12 99) (hfr : Bd fr 12 23) (hto : Bd to 12 23) (hte : ∀ c, c < 4 → ∃ k, 1 ≤ k ∧ k ≤ 9999 ∧ te c = nI k) (hfy : Bd fy 4 9) (hfn : Bd fn 4 9) (hW : Wat th md mi go fl st fr to wg sL sT sF sU) (hF : Fnd fC fS fM fT fY fd n) (hlk : Bd lk 12 99) (hbl : ∃ k, k ≤ 99 ∧ bl = nI k) {v : Nat} (hv : v < 12) (hbv : hb th v = true) : ∃ b, b ≤ 990000000000 ∧ f_X6_thoughtBy (Int32.toInt64 (lk v)) (some (24 + 3 * v)) none rn te fy fn wg (nI n) sL sT sF sU fC fS fM fT fY = some (lN b) ∧ f_X11_thoughtOf (nI v) md mi go fl lk st fr to rn te fy fn fd th bl (nI n) = some (lN b) := by
  obtain ⟨k, hk, e⟩ := hlk v hv
  obtain ⟨b, b1, b2, b3⟩ := tho2 hF.1 (q_1 hT hm hfr hto hte hfy hfn hW hF hv hbv) (a := k) (by omega)
  refine ⟨b, by omega, ?_, ?_⟩
  · rw [e, nI_l (by omega)]; exact b2
  · unfold f_X11_thoughtOf
    rw [if_neg (fun q => absurd q (by intro q; have := nI_pos' (n := v) (by omega); rw [q] at this; exact absurd this (by decide))), ri_nI hv (by decide), e, nI_l (by omega), b3]; rfl
theorem wv_bd (hT : Tree th md) (hm : Bd mi 12 99) (hfr : Bd fr 12 23) (hto : Bd to 12 23) (hte : ∀ c, c < 4 → ∃ k, 1 ≤ k ∧ k ≤ 9999 ∧ te c = nI k) (hfy : Bd fy 4 9) (hfn : Bd fn 4 9) (hW : Wat th md mi go fl st fr to wg sL sT sF sU) (hF : Fnd fC fS fM fT fY fd n) (hlk : Bd lk 12 99) (hbl : ∃ k, k ≤ 99 ∧ bl = nI k) : (∃ k, k ≤ 990000000000 ∧ (gd (f_X11_thoughtOf (-1) md mi go fl lk st fr to rn te fy fn fd th bl (nI n))) = lN k) ∧ ∀ v, v < 12 → ∃ k, k ≤ 990000000000 ∧ (fun v => if (srN th lk).testBit v = true then gd (f_X11_thoughtOf (nI v) md mi go fl lk st fr to rn te fy fn fd th bl (nI n)) else 0) v = lN k := by
  constructor
  · obtain ⟨b, h1, _, h3⟩ := t_0 (lk := lk) hT hm hfr hto hte hfy hfn hW hF hlk hbl
    exact ⟨b, h1, by rw [h3]; rfl⟩
  · intro v hv
    by_cases h : (srN th lk).testBit v = true
    · obtain ⟨b, h1, _, h3⟩ := t_1 (bl := bl) hT hm hfr hto hte hfy hfn hW hF hlk hbl hv (sr_bit h).2.1
      exact ⟨b, h1, by simp only [if_pos h]; rw [h3]; rfl⟩
    · exact ⟨0, by omega, by simp only [if_neg h]; rfl⟩
theorem all_bd (hT : Tree th md) (hm : Bd mi 12 99) (hfr : Bd fr 12 23) (hto : Bd to 12 23) (hte : ∀ c, c < 4 → ∃ k, 1 ≤ k ∧ k ≤ 9999 ∧ te c = nI k) (hfy : Bd fy 4 9) (hfn : Bd fn 4 9) (hW : Wat th md mi go fl st fr to wg sL sT sF sU) (hF : Fnd fC fS fM fT fY fd n) (hlk : Bd lk 12 99) (hbl : ∃ k, k ≤ 99 ∧ bl = nI k) : ∃ k, k ≤ 12870000000000 ∧ sx (gd (f_X11_thoughtOf (-1) md mi go fl lk st fr to rn te fy fn fd th bl (nI n))) (fun v => if (srN th lk).testBit v = true then gd (f_X11_thoughtOf (nI v) md mi go fl lk st fr to rn te fy fn fd th bl (nI n)) else 0) 12 = lN k := by
  obtain ⟨h1, h2⟩ := wv_bd hT hm hfr hto hte hfy hfn hW hF hlk hbl
  obtain ⟨k, a, b⟩ := sx_bd 990000000000 h1 12 h2
  exact ⟨k, by omega, b⟩
theorem all11 (hT : Tree th md) (hm : Bd mi 12 99) (hfr : Bd fr 12 23) (hto : Bd to 12 23) (hte : ∀ c, c < 4 → ∃ k, 1 ≤ k ∧ k ≤ 9999 ∧ te c = nI k) (hfy : Bd fy 4 9) (hfn : Bd fn 4 9) (hW : Wat th md mi go fl st fr to wg sL sT sF sU) (hF : Fnd fC fS fM fT fY fd n) (hlk : Bd lk 12 99) (hbl : ∃ k, k ≤ 99 ∧ bl = nI k) : f_X11_allThought md mi go fl lk st fr to rn te fy fn fd th bl (nI n) = some (sx (gd (f_X11_thoughtOf (-1) md mi go fl lk st fr to rn te fy fn fd th bl (nI n))) (fun v => if (srN th lk).testBit v = true then gd (f_X11_thoughtOf (nI v) md mi go fl lk st fr to rn te fy fn fd th bl (nI n)) else 0) 12) := by
  unfold f_X11_allThought
  obtain ⟨b0, _, _, h0⟩ := t_0 (lk := lk) hT hm hfr hto hte hfy hfn hW hF hlk hbl
  have hl := sr_lt th lk
  rw [src11, sb', h0, sb']
  refine Eq.trans (itv 12 (fun N i => LX11_allThought_14 md mi go fl lk st fr to rn te fy fn fd th bl (nI n) (nI (srN th lk)) (fun x _ => some x) N (sx (lN b0) (fun v => if (srN th lk).testBit v = true then gd (f_X11_thoughtOf (nI v) md mi go fl lk st fr to rn te fy fn fd th bl (nI n)) else 0) i) (nI i)) _ ?_ ?_ FU 0 (by omega) (fu_lt (by omega))) (?_ : some (sx (lN b0) (fun v => if (srN th lk).testBit v = true then gd (f_X11_thoughtOf (nI v) md mi go fl lk st fr to rn te fy fn fd th bl (nI n)) else 0) 12) = _)
  · intro N
    show LX11_allThought_14 md mi go fl lk st fr to rn te fy fn fd th bl (nI n) (nI (srN th lk)) _ (N + 1) (sx (lN b0) (fun v => if (srN th lk).testBit v = true then gd (f_X11_thoughtOf (nI v) md mi go fl lk st fr to rn te fy fn fd th bl (nI n)) else 0) 12) (nI 12) = _
    rw [LX11_allThought_14_s, if_pos (by decide)]
  · intro N i hi
    show LX11_allThought_14 md mi go fl lk st fr to rn te fy fn fd th bl (nI n) (nI (srN th lk)) _ (N + 1) (sx (lN b0) (fun v => if (srN th lk).testBit v = true then gd (f_X11_thoughtOf (nI v) md mi go fl lk st fr to rn te fy fn fd th bl (nI n)) else 0) i) (nI i) = LX11_allThought_14 md mi go fl lk st fr to rn te fy fn fd th bl (nI n) (nI (srN th lk)) _ N (sx (lN b0) (fun v => if (srN th lk).testBit v = true then gd (f_X11_thoughtOf (nI v) md mi go fl lk st fr to rn te fy fn fd th bl (nI n)) else 0) (i + 1)) (nI (i + 1))
    rw [LX11_allThought_14_s, if_neg (lt12 hi), has11, sb', hb_nI (by omega) (by omega), sx]
    by_cases h : (srN th lk).testBit i = true
    · obtain ⟨b, _, _, h3⟩ := t_1 (bl := bl) hT hm hfr hto hte hfy hfn hW hF hlk hbl hi (sr_bit h).2.1
      simp only [if_pos h]
      rw [if_neg one_ne, h3, sb', sb', lt_eq, lt_eq, nI_1]; rfl
    · simp only [if_neg h]
      rw [if_pos trivial, sb', lt_eq, lt_eq, nI_1]
  · rfl
/-- the class thinks of one -/
theorem one10 (hT : Tree th md) (hm : Bd mi 12 99) (hfr : Bd fr 12 23) (hto : Bd to 12 23) (hte : ∀ c, c < 4 → ∃ k, 1 ≤ k ∧ k ≤ 9999 ∧ te c = nI k) (hfy : Bd fy 4 9) (hfn : Bd fn 4 9) (hW : Wat th md mi go fl st fr to wg sL sT sF sU) (hF : Fnd fC fS fM fT fY fd n) (hlk : Bd lk 12 99) (hbl : ∃ k, k ≤ 99 ∧ bl = nI k) {no al : Int64} {one : Nat → Int64} {k1 : Int32} (hk : k1 = 0 ∨ k1 = 1 ∧ C1 th bl md mi go fl lk st fr to rn te fy fn fd n no al one) : ∃ (no' al' : Int64) (one' : Nat → Int64), f_X6_thinkOfOne lk rn te fy fn bl (nI (srN th lk)) wg no al k1 (nI n) one sL sT sF sU fC fS fM fT fY = some (no', al', 1, one') ∧ C1 th bl md mi go fl lk st fr to rn te fy fn fd n no' al' one' := by
  unfold f_X6_thinkOfOne
  rcases hk with rfl | ⟨rfl, hC⟩
  · obtain ⟨b0, _, h0, h0'⟩ := t_0 (lk := lk) hT hm hfr hto hte hfy hfn hW hF hlk hbl
    have hl := sr_lt th lk
    have ew : (gd (f_X11_thoughtOf (-1) md mi go fl lk st fr to rn te fy fn fd th bl (nI n))) = lN b0 := by rw [h0']; rfl
    rw [if_pos rfl, h0, sb']
    obtain ⟨f, hf, e⟩ := its (S := Nat → Int64) 12 (fun i f => ∀ v, v < i → f v = (fun v => if (srN th lk).testBit v = true then gd (f_X11_thoughtOf (nI v) md mi go fl lk st fr to rn te fy fn fd th bl (nI n)) else 0) v) (fun N i f => LX6_thinkOfOne_36 lk rn te fy fn (nI (srN th lk)) wg (nI n) sL sT sF sU fC fS fM fT fY (fun _ x7 f8 => some (lN b0, x7, 1, f8)) N (nI i) (sx (lN b0) (fun v => if (srN th lk).testBit v = true then gd (f_X11_thoughtOf (nI v) md mi go fl lk st fr to rn te fy fn fd th bl (nI n)) else 0) i) f) (fun f => some (lN b0, sx (lN b0) (fun v => if (srN th lk).testBit v = true then gd (f_X11_thoughtOf (nI v) md mi go fl lk st fr to rn te fy fn fd th bl (nI n)) else 0) 12, 1, f)) (by
      intro N f _
      show LX6_thinkOfOne_36 lk rn te fy fn (nI (srN th lk)) wg (nI n) sL sT sF sU fC fS fM fT fY _ (N + 1) (nI 12) (sx (lN b0) (fun v => if (srN th lk).testBit v = true then gd (f_X11_thoughtOf (nI v) md mi go fl lk st fr to rn te fy fn fd th bl (nI n)) else 0) 12) f = _
      rw [LX6_thinkOfOne_36_s, if_pos (by decide)]) (by
      intro N i f hi hI
      by_cases h : (srN th lk).testBit i = true
      · obtain ⟨b, _, h2, h3⟩ := t_1 (bl := bl) hT hm hfr hto hte hfy hfn hW hF hlk hbl hi (sr_bit h).2.1
        refine ⟨vp_updL (vp_updL f i 0) i (lN b), fun v hv => ?_, ?_⟩
        · by_cases hvi : v = i
          · subst hvi
            rw [pk_uLs]
            simp only [if_pos h]
            rw [h3]; rfl
          · rw [pk_uLn hvi, pk_uLn hvi]
            exact hI v (by omega)
        · show LX6_thinkOfOne_36 lk rn te fy fn (nI (srN th lk)) wg (nI n) sL sT sF sU fC fS fM fT fY _ (N + 1) (nI i) (sx (lN b0) (fun v => if (srN th lk).testBit v = true then gd (f_X11_thoughtOf (nI v) md mi go fl lk st fr to rn te fy fn fd th bl (nI n)) else 0) i) f = LX6_thinkOfOne_36 lk rn te fy fn (nI (srN th lk)) wg (nI n) sL sT sF sU fC fS fM fT fY _ N (nI (i + 1)) (sx (lN b0) (fun v => if (srN th lk).testBit v = true then gd (f_X11_thoughtOf (nI v) md mi go fl lk st fr to rn te fy fn fd th bl (nI n)) else 0) (i + 1)) _
          rw [LX6_thinkOfOne_36_s, if_neg (lt12 hi), wl_nI hi (by decide), has10, sb', hb_nI (by omega) (by omega), if_pos h, if_neg one_ne, ri_nI hi (by decide), ix_nI hi (by decide), h2, sb', wl_nI hi (by decide), rl_nI hi (by decide), pk_uLs, lt_eq, sb', lt_eq, nI_1, sx]
          simp only [if_pos h]
          rw [h3]; rfl
      · refine ⟨vp_updL f i 0, fun v hv => ?_, ?_⟩
        · by_cases hvi : v = i
          · subst hvi
            rw [pk_uLs]
            simp only [if_neg h]
          · rw [pk_uLn hvi]
            exact hI v (by omega)
        · show LX6_thinkOfOne_36 lk rn te fy fn (nI (srN th lk)) wg (nI n) sL sT sF sU fC fS fM fT fY _ (N + 1) (nI i) (sx (lN b0) (fun v => if (srN th lk).testBit v = true then gd (f_X11_thoughtOf (nI v) md mi go fl lk st fr to rn te fy fn fd th bl (nI n)) else 0) i) f = LX6_thinkOfOne_36 lk rn te fy fn (nI (srN th lk)) wg (nI n) sL sT sF sU fC fS fM fT fY _ N (nI (i + 1)) (sx (lN b0) (fun v => if (srN th lk).testBit v = true then gd (f_X11_thoughtOf (nI v) md mi go fl lk st fr to rn te fy fn fd th bl (nI n)) else 0) (i + 1)) _
          rw [LX6_thinkOfOne_36_s, if_neg (lt12 hi), wl_nI hi (by decide), has10, sb', hb_nI (by omega) (by omega), if_neg h, if_pos rfl, sb', lt_eq, nI_1, sx]
          simp only [if_neg h]
          rw [Int64.add_zero]) FU 0 one (by omega) (fu_lt (by omega)) (fun v hv => by omega)
    refine ⟨_, _, f, e, ew.symm, hf, ?_⟩
    rw [ew]
  · rw [if_neg one_ne]
    exact ⟨no, al, one, rfl, hC⟩
end
