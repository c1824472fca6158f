/-! counting bits; count; ways; lids by hand -/
theorem bc_all : ∀ a, a < 64 → ∀ b, b < 64 → f_J6_bitCount_0f7a4 (nI (64 * a + b)) = some (nI (pc (64 * a + b) 12)) := by decide +kernel
theorem bc10 {s : Nat} (hs : s < 4096) : f_J6_bitCount_0f7a4 (nI s) = some (nI (pc s 12)) := by
  have := bc_all (s / 64) (by omega) (s % 64) (by omega)
  rw [Nat.div_add_mod] at this
  exact this
theorem sm_wk {wk : Nat → Int32} (h0 : wk 0 = 0) (s : Nat) : ∀ n, smS wk s (n + 1) = wkS wk s n
  | 0 => by
    rw [smS, smS, wkS, h0]
    split <;> rfl
  | n + 1 => by rw [smS, sm_wk h0 s n, wkS]
theorem pace10 {wk : Nat → Int32} {t : Nat} (ht : t < 4096) : f_X9_allPaces wk (nI t) = some (smS wk t 12) := by
  unfold f_X9_allPaces
  refine itv 12 (fun N i => LX9_allPaces_4 wk (nI t) (fun x3 _ => some x3) N (smS wk t i) (nI i)) _ ?_ ?_ FU 0 (by omega) (fu_lt (by omega))
  · intro N
    show LX9_allPaces_4 wk (nI t) _ (N + 1) (smS wk t 12) (nI 12) = _
    rw [LX9_allPaces_4_s, if_pos (by decide)]
  · intro N i hi
    show LX9_allPaces_4 wk (nI t) _ (N + 1) (smS wk t i) (nI i) = LX9_allPaces_4 wk (nI t) _ N (smS wk t (i + 1)) (nI (i + 1))
    rw [LX9_allPaces_4_s, if_neg (lt12 hi), has10, sb', hb_nI (by omega) (by omega), smS]
    by_cases h : t.testBit i = true
    · simp only [if_pos h, if_neg one_ne]
      rw [ri_nI hi (by decide), sb', lt_eq, lt_eq, nI_1]
    · simp only [if_neg h]
      rw [if_pos trivial, sb', lt_eq, lt_eq, nI_1]
theorem count11 {wk : Nat → Int32} {t : Nat} (ht : t < 4096) (ko : Int32 → Int32 → Option Int32) : LX11_count_4 wk (nI t) ko FU 0 1 = ko (wkS wk t 11) (nI 12) := by
  refine itv 11 (fun N i => LX11_count_4 wk (nI t) ko N (wkS wk t i) (nI (i + 1))) _ ?_ ?_ FU 0 (by omega) (fu_lt (by omega))
  · intro N
    show LX11_count_4 wk (nI t) ko (N + 1) (wkS wk t 11) (nI 12) = _
    rw [LX11_count_4_s, if_pos (by decide)]
  · intro N i hi
    show LX11_count_4 wk (nI t) ko (N + 1) (wkS wk t i) (nI (i + 1)) = LX11_count_4 wk (nI t) ko N (wkS wk t (i + 1)) (nI (i + 1 + 1))
    rw [LX11_count_4_s, if_neg (lt12 (by omega)), has11, sb', hb_nI (by omega) (by omega), wkS]
    by_cases h : t.testBit (i + 1) = true
    · simp only [if_pos h, if_neg one_ne]
      rw [ri_nI (by omega) (by decide), sb', lt_eq, lt_eq, nI_1]
    · simp only [if_neg h]
      rw [if_pos trivial, sb', lt_eq, lt_eq, nI_1]
/-- promise 27 -/
theorem p_count {wk lk : Nat → Int32} {t : Nat} (ht : t < 4096) (h0 : wk 0 = 0) (p0 len li bl n : Int32) : ∃ r, f_X10_count p0 len wk (nI t) li bl (nI (srN (nI t) lk)) n = some r ∧ f_X11_count p0 wk lk len (nI t) li bl n = some r := by
  unfold f_X10_count f_X11_count
  have hl := sr_lt (nI t) lk
  rw [count11 ht, bc10 ht, bc10 hl, many11 ht, src11, pace10 ht, sm_wk h0]
  simp only [sb', many11 hl]
  exact two rfl (by (repeat' split) <;> exact ⟨_, rfl⟩)
theorem ab_no {th : Int32} {md : Nat → Int32} (hT : Tree th md) {x : Nat} (hx : x < 12) (h : ¬ hb th x = true) : ab th md x = 0 := by
  apply Nat.eq_of_testBit_eq
  intro i
  unfold ab
  rw [bs_bit, Nat.zero_testBit]
  by_cases hi : i < 12
  · unfold abF
    cases hbi : hb th i with
    | false => simp
    | true =>
      cases hw : (wy md i).testBit x with
      | false => simp
      | true => exact absurd ((wy_ind hT i hi hbi).1 x hw).2 h
  · simp [hi]
theorem ab_bit {th : Int32} {md : Nat → Int32} {x v : Nat} (hv : v < 12) (hbv : hb th v = true) : (ab th md x).testBit v = (wy md v).testBit x := by
  unfold ab
  rw [bs_bit]
  simp [hv, abF, hbv]
/-- the tables that the reference lays -/
theorem ways11 {th : Int32} {md wk : Nat → Int32} (hT : Tree th md) (av ap : Nat → Int32) : ∃ av' ap' : Nat → Int32, f_X11_layWays md wk av ap th = some (av', ap') ∧ (∀ x, x < 12 → av' x = nI (ab th md x)) ∧ ∀ x y, x < 12 → y < 12 → hb th x = true → hb th y = true → ap' (12 * x + y) = wk2 md wk x y := by
  unfold f_X11_layWays
  obtain ⟨⟨f, g⟩, ⟨h1, h2⟩, e⟩ := its (S := (Nat → Int32) × (Nat → Int32)) 12 (fun i s => (∀ x, x < i → s.1 x = nI (ab th md x)) ∧ ∀ x y, x < i → y < 12 → hb th x = true → hb th y = true → s.2 (12 * x + y) = wk2 md wk x y) (fun N i s => LX11_layWays_2 md wk th (fun _ f5 f6 => some (f5, f6)) N (nI i) s.1 s.2) (fun s => some s) (by
    intro N s _
    show LX11_layWays_2 md wk th _ (N + 1) (nI 12) s.1 s.2 = _
    rw [LX11_layWays_2_s, if_pos (by decide)]) (by
    rintro N i ⟨f, g⟩ hi ⟨i1, i2⟩
    dsimp only at i1 i2 ⊢
    obtain ⟨g', hg, eg⟩ := its (S := Nat → Int32) 12 (fun j g => (∀ x y, x < i → y < 12 → hb th x = true → hb th y = true → g (12 * x + y) = wk2 md wk x y) ∧ ∀ y, y < j → hb th i = true → hb th y = true → g (12 * i + y) = wk2 md wk i y) (fun M j g => LX11_layWays_36 md wk th (nI i) (fun _ f15 => lt (nI i + 1 : Int32) fun x26 => LX11_layWays_2 md wk th (fun _ f5 f6 => some (f5, f6)) N x26 (upd f i (nI (ab th md i))) f15) M (nI j) g) (fun g => LX11_layWays_2 md wk th (fun _ f5 f6 => some (f5, f6)) N (nI (i + 1)) (upd f i (nI (ab th md i))) g) (by
      intro M g _
      show LX11_layWays_36 md wk th (nI i) _ (M + 1) (nI 12) g = _
      rw [LX11_layWays_36_s, if_pos (by decide), lt_eq, nI_1]) (by
      rintro M j g hj ⟨j1, j2⟩
      have w1 : (12 : Int32) * nI i + nI j = nI (12 * i + j) := by
        rw [show (12 : Int32) * nI i = nI (12 * i) from pk_mul 12 i, nI_add]
      have step : ∀ z : Int32, (hb th i = true → hb th j = true → z = wk2 md wk i j) → ((∀ x y, x < i → y < 12 → hb th x = true → hb th y = true → upd g (12 * i + j) z (12 * x + y) = wk2 md wk x y) ∧ ∀ y, y < j + 1 → hb th i = true → hb th y = true → upd g (12 * i + j) z (12 * i + y) = wk2 md wk i y) := by
        intro z hz
        refine ⟨fun x y hx hy a b => ?_, fun y hy a b => ?_⟩
        · rw [pk_un (by omega)]; exact j1 x y hx hy a b
        · by_cases q : y = j
          · subst q; rw [pk_us]; exact hz a b
          · rw [pk_un (by omega)]; exact j2 y (by omega) a b
      have fin : ∀ (z : Int32) (o : Option Int32), o = some z → (o.bind fun q18 => wi g 144 (((12 * nI i) + nI j)) (q18) fun f19 => lt (nI j + 1 : Int32) fun x21 => LX11_layWays_36 md wk th (nI i) (fun _ f15 => lt (nI i + 1 : Int32) fun x26 => LX11_layWays_2 md wk th (fun _ f5 f6 => some (f5, f6)) N x26 (upd f i (nI (ab th md i))) f15) M x21 f19) = LX11_layWays_36 md wk th (nI i) (fun _ f15 => lt (nI i + 1 : Int32) fun x26 => LX11_layWays_2 md wk th (fun _ f5 f6 => some (f5, f6)) N x26 (upd f i (nI (ab th md i))) f15) M (nI (j + 1)) (upd g (12 * i + j) z) := by
        intro z o ho
        rw [ho, sb', w1, wi_nI (by omega) (by decide), lt_eq, nI_1 j]
      by_cases a : hb th i = true
      · by_cases b : hb th j = true
        · refine ⟨_, step (wk2 md wk i j) (fun _ _ => rfl), ?_⟩
          show LX11_layWays_36 md wk th (nI i) _ (M + 1) (nI j) g = _
          rw [LX11_layWays_36_s, if_neg (lt12 hj), has11, sb', if_pos a, if_neg one_ne, has11, sb', if_pos b, if_neg one_ne, walkOf11 hT hi hj a b, sb']
          exact fin _ _ rfl
        · refine ⟨_, step 0 (fun _ q => absurd q b), ?_⟩
          show LX11_layWays_36 md wk th (nI i) _ (M + 1) (nI j) g = _
          rw [LX11_layWays_36_s, if_neg (lt12 hj), has11, sb', if_pos a, if_neg one_ne, has11, sb', if_neg b, if_pos rfl]
          exact fin _ _ rfl
      · refine ⟨_, step 0 (fun q _ => absurd q a), ?_⟩
        show LX11_layWays_36 md wk th (nI i) _ (M + 1) (nI j) g = _
        rw [LX11_layWays_36_s, if_neg (lt12 hj), has11, sb', if_neg a, if_pos rfl]
        exact fin _ _ rfl) FU 0 g (by omega) (fu_lt (by omega)) ⟨i2, fun y hy => by omega⟩
    refine ⟨(upd f i (nI (ab th md i)), g'), ⟨fun x hx => ?_, fun x y hx hy a b => ?_⟩, ?_⟩
    · dsimp only
      by_cases q : x = i
      · subst q; rw [pk_us]
      · rw [pk_un q]; exact i1 x (by omega)
    · dsimp only
      by_cases q : x = i
      · subst q; exact hg.2 y hy a b
      · exact hg.1 x y (by omega) hy a b
    · dsimp only
      rw [LX11_layWays_2_s, if_neg (lt12 hi), has11, sb']
      by_cases a : hb th i = true
      · rw [if_pos a, if_neg one_ne, aboveOf11 hT hi, sb', sb', wi_nI hi (by decide)]
        exact eg
      · rw [if_neg a, if_pos rfl, sb', wi_nI hi (by decide)]
        have : nI (ab th md i) = 0 := by rw [ab_no hT hi a]; rfl
        rw [this] at eg
        rw [this]
        exact eg) FU 0 (av, ap) (by omega) (fu_lt (by omega)) ⟨fun x hx => by omega, fun x y hx => by omega⟩
  exact ⟨f, g, e, h1, h2⟩
theorem wkS_bd {wk : Nat → Int32} (hw : Bd wk 12 60) (s : Nat) : ∀ n, n ≤ 11 → ∃ k, k ≤ 60 * n ∧ wkS wk s n = nI k
  | 0, _ => ⟨0, by omega, rfl⟩
  | n + 1, h => by
    obtain ⟨k, h1, h2⟩ := wkS_bd hw s n (by omega)
    obtain ⟨j, h3, h4⟩ := hw (n + 1) (by omega)
    rw [wkS, h2]
    by_cases q : s.testBit (n + 1) = true
    · rw [if_pos q, h4, nI_add]; exact ⟨k + j, by omega, rfl⟩
    · rw [if_neg q]; exact ⟨k, by omega, Int32.add_zero _⟩
theorem wk2_bd {md wk : Nat → Int32} (hw : Bd wk 12 60) (a b : Nat) : ∃ k, k ≤ 660 ∧ wk2 md wk a b = nI k := by
  obtain ⟨k, h1, h2⟩ := wkS_bd hw (wy md a ^^^ wy md b) 11 (by omega)
  exact ⟨k, by omega, h2⟩
/-- the lid at a place of an order -/
def lidI (p : Int32) (i : Nat) : Int32 := (p >>> ((4 * nI i) &&& 31)) &&& 15
theorem lids2 {th : Int32} (p0 : Int32) {k : Nat} (hk : k ≤ 8) : (f_X10_areLids p0 (nI k) th = some 0 ∧ f_X11_areLids p0 (nI k) th = some 0) ∨ (f_X10_areLids p0 (nI k) th = some 1 ∧ f_X11_areLids p0 (nI k) th = some 1 ∧ ∀ i, i < k → ∃ l, l < 12 ∧ lidI p0 i = nI l ∧ hb th l = true) := by
  unfold f_X10_areLids f_X11_areLids
  have z11 : ∀ N i, i ≤ k → k - i < N → LX11_areLids_5 p0 (nI k) th (fun x3 _ => bq (x3) <| some (x3)) N 0 (nI i) = some 0 := by
    refine itv k (fun N i => LX11_areLids_5 p0 (nI k) th (fun x3 _ => bq (x3) <| some (x3)) N 0 (nI i)) _ ?_ ?_
    · intro N
      show LX11_areLids_5 p0 (nI k) th _ (N + 1) 0 (nI k) = _
      rw [LX11_areLids_5_s, if_pos (nI_le (Nat.le_refl _) (by omega)), bq_ok (Or.inl rfl)]
    · intro N i hi
      show LX11_areLids_5 p0 (nI k) th _ (N + 1) 0 (nI i) = LX11_areLids_5 p0 (nI k) th _ N 0 (nI (i + 1))
      rw [LX11_areLids_5_s, if_neg (nI_ge hi (by omega)), if_pos rfl, sb', lt_eq, nI_1]
  have key : ∀ d i, i + d = k → ∀ N1 N2, d < N1 → d < N2 → (LX10_areLids_2 p0 (nI k) th (fun _ => some 1) N1 (nI i) = some 0 ∧ LX11_areLids_5 p0 (nI k) th (fun x3 _ => bq (x3) <| some (x3)) N2 1 (nI i) = some 0) ∨ (LX10_areLids_2 p0 (nI k) th (fun _ => some 1) N1 (nI i) = some 1 ∧ LX11_areLids_5 p0 (nI k) th (fun x3 _ => bq (x3) <| some (x3)) N2 1 (nI i) = some 1 ∧ ∀ j, i ≤ j → j < k → ∃ l, l < 12 ∧ lidI p0 j = nI l ∧ hb th l = true) := by
    intro d
    induction d with
    | zero =>
      intro i hi N1 N2 h1 h2
      obtain ⟨m1, rfl⟩ : ∃ m, N1 = m + 1 := ⟨N1 - 1, by omega⟩
      obtain ⟨m2, rfl⟩ : ∃ m, N2 = m + 1 := ⟨N2 - 1, by omega⟩
      have : i = k := by omega
      subst this
      refine Or.inr ⟨?_, ?_, fun j h1 h2 => by omega⟩
      · rw [LX10_areLids_2_s, if_pos (nI_le (Nat.le_refl _) (by omega))]
      · rw [LX11_areLids_5_s, if_pos (nI_le (Nat.le_refl _) (by omega)), bq_ok (Or.inr rfl)]
    | succ d ih =>
      intro i hi N1 N2 h1 h2
      obtain ⟨m1, rfl⟩ : ∃ m, N1 = m + 1 := ⟨N1 - 1, by omega⟩
      obtain ⟨m2, rfl⟩ : ∃ m, N2 = m + 1 := ⟨N2 - 1, by omega⟩
      rw [LX10_areLids_2_s, if_neg (nI_ge (by omega) (by omega)), LX11_areLids_5_s, if_neg (nI_ge (by omega) (by omega)), if_neg one_ne]
      unfold f_X3_lidOf
      rw [sb']
      have el : ((p0 >>> ((4 * nI i) &&& 31)) &&& 15) = lidI p0 i := rfl
      rw [el, there10, node11, sb', sb', nI_1]
      simp only [lt_eq]
      by_cases h : isN th (lidI p0 i) = true
      · obtain ⟨l, hl, e, hbl⟩ := isN_of h
        simp only [if_pos h, if_neg one_ne]
        rw [sb']
        rcases ih (i + 1) (by omega) m1 m2 (by omega) (by omega) with q | ⟨q1, q2, q3⟩
        · exact Or.inl q
        · refine Or.inr ⟨q1, q2, fun j h1 h2 => ?_⟩
          by_cases hj : j = i
          · subst hj; exact ⟨l, hl, e, hbl⟩
          · exact q3 j (by omega) h2
      · simp only [if_neg h]
        refine Or.inl ⟨rfl, ?_⟩
        rw [if_pos trivial, sb']
        exact z11 m2 (i + 1) (by omega) (by omega)
  rcases key k 0 (by omega) FU FU (fu_lt (by omega)) (fu_lt (by omega)) with h | ⟨h1, h2, h3⟩
  · exact Or.inl h
  · exact Or.inr ⟨h1, h2, fun i hi => h3 i (by omega) hi⟩
theorem shl8 : ∀ p, p < 8 → (1 : Int32) <<< (nI p &&& 31) = nI (2 ^ p) := by decide
/-- what is answered over an order of lids -/
theorem ans2 {th : Int32} {md td wk ov : Nat → Int32} (hT : Tree th md) (hd : ∀ v, v < 12 → hb th v = true → td v = md v) (hw : Bd wk 12 60) (ho : ∀ x, x < 12 → ov x = nI (ab th md x)) {v : Nat} (hv : v < 12) (hbv : hb th v = true) (p1 p3 : Int32) (hp3 : (-1) ≤ p3) {k : Nat} (hk : k ≤ 8) (hl : ∀ i, i < k → ∃ l, l < 12 ∧ lidI p1 i = nI l ∧ hb th l = true) : ∃ a, a < 256 ∧ f_X3_answersOf (nI v) p1 (nI k) p3 td wk ov = some (nI a) ∧ f_X11_answersOf (nI v) p1 (nI k) p3 md wk = some (nI a) := by
  unfold f_X3_answersOf f_X11_answersOf
  have stop : ∀ (a : Int32) N i, i ≤ k → k - i < N → LX11_answersOf_9 (nI v) p1 (nI k) p3 md wk (fun x4 _ _ => some x4) N a 1 (nI i) = some a := by
    intro a
    refine itv k (fun N i => LX11_answersOf_9 (nI v) p1 (nI k) p3 md wk (fun x4 _ _ => some x4) N a 1 (nI i)) _ ?_ ?_
    · intro N
      show LX11_answersOf_9 (nI v) p1 (nI k) p3 md wk _ (N + 1) a 1 (nI k) = _
      rw [LX11_answersOf_9_s, if_pos (nI_le (Nat.le_refl _) (by omega))]
    · intro N i hi
      show LX11_answersOf_9 (nI v) p1 (nI k) p3 md wk _ (N + 1) a 1 (nI i) = LX11_answersOf_9 (nI v) p1 (nI k) p3 md wk _ N a 1 (nI (i + 1))
      rw [LX11_answersOf_9_s, if_neg (nI_ge hi (by omega)), lt_eq, if_neg one_ne, if_neg one_ne, sb', lt_eq, sb', lt_eq, nI_1, Int32.or_zero]
  have key : ∀ d i, i + d = k → ∀ N1 N2 a, d < N1 → d < N2 → a < 2 ^ i → ∃ b, b < 256 ∧ LX3_answersOf_6 (nI v) p1 (nI k) p3 td wk ov (fun x3 _ => some x3) N1 (nI a) (nI i) = some (nI b) ∧ LX11_answersOf_9 (nI v) p1 (nI k) p3 md wk (fun x4 _ _ => some x4) N2 (nI a) 0 (nI i) = some (nI b) := by
    intro d
    induction d with
    | zero =>
      intro i hi N1 N2 a h1 h2 ha
      obtain ⟨m1, rfl⟩ : ∃ m, N1 = m + 1 := ⟨N1 - 1, by omega⟩
      obtain ⟨m2, rfl⟩ : ∃ m, N2 = m + 1 := ⟨N2 - 1, by omega⟩
      have : i = k := by omega
      subst this
      refine ⟨a, Nat.lt_of_lt_of_le ha (Nat.le_trans (Nat.pow_le_pow_right (by decide) hk) (by decide)), ?_, ?_⟩
      · rw [LX3_answersOf_6_s, if_pos (nI_le (Nat.le_refl _) (by omega))]
      · rw [LX11_answersOf_9_s, if_pos (nI_le (Nat.le_refl _) (by omega))]
    | succ d ih =>
      intro i hi N1 N2 a h1 h2 ha
      obtain ⟨m1, rfl⟩ : ∃ m, N1 = m + 1 := ⟨N1 - 1, by omega⟩
      obtain ⟨m2, rfl⟩ : ∃ m, N2 = m + 1 := ⟨N2 - 1, by omega⟩
      obtain ⟨l, hl1, hl2, hl3⟩ := hl i (by omega)
      obtain ⟨w, hw1, hw2⟩ := wk2_bd (md := md) hw v l
      have el : ((p1 >>> ((4 * nI i) &&& 31)) &&& 15) = nI l := hl2
      have hab := ab_lt th md l
      have hwy := (wy_ind hT v hv hbv).2.2
      rw [LX3_answersOf_6_s, if_neg (nI_ge (by omega) (by omega)), LX11_answersOf_9_s, if_neg (nI_ge (by omega) (by omega))]
      unfold f_X3_lidOf
      rw [sb', lt_eq, el, ri_nI hl1 (by decide), ho l hl1, has10, sb', hb_nI (by omega) (by omega), ab_bit hv hbv, if_pos rfl, wayOf11 hT hv hbv, sb', has11, sb', hb_nI (by omega) (by omega), mb10 hT hd hv hl1 hbv hl3, if_pos rfl, walkOf11 hT hv hl1 hbv hl3, shl8 i (by omega), hw2]
      have e2 : ∀ c : Bool, ((if (if c = true then (1 : Int32) else 0) = 0 then some (0 : Int32) else some (nI (2 ^ i)))) = some (nI (if c = true then 2 ^ i else 0)) := by
        intro c
        cases c
        · rfl
        · rfl
      simp only [e2, sb', lt_eq, or_nI, nI_1]
      have hlt : a ||| (if (wy md v).testBit l = true then 2 ^ i else 0) < 2 ^ (i + 1) := by
        apply Nat.or_lt_two_pow
        · exact Nat.lt_of_lt_of_le ha (Nat.pow_le_pow_right (by decide) (by omega))
        · split
          · exact Nat.pow_lt_pow_right (by decide) (by omega)
          · exact Nat.two_pow_pos _
      generalize (a ||| if (wy md v).testBit l = true then 2 ^ i else 0) = a' at hlt
      by_cases h3 : p3 < nI w
      · rw [if_pos h3]
        have e3 : (if p3 < 0 then some (0 : Int32) else if p3 < nI w then some 0 else some 1) = some 0 := by
          rw [if_pos h3]; split <;> rfl
        rw [e3, sb']
        exact ih (i + 1) (by omega) m1 m2 a' (by omega) (by omega) hlt
      · have h4 : ¬ p3 < 0 := fun q => h3 (Int32.lt_of_lt_of_le q (nI_pos' (by omega)))
        rw [if_neg h3, if_neg h4, if_neg h3, sb']
        refine ⟨a', ?_, rfl, stop (nI a') m2 (i + 1) (by omega) (by omega)⟩
        exact Nat.lt_of_lt_of_le hlt (Nat.le_trans (Nat.pow_le_pow_right (by decide) (show i + 1 ≤ 8 by omega)) (by decide))
  exact key k 0 (by omega) FU FU 0 (fu_lt (by omega)) (fu_lt (by omega)) (by decide)
