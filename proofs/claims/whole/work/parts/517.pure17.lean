/-! cups that always hang -/
theorem hasE (s p : Int32) : f_X10_has s p = f_X11_has s p := by
  unfold f_X10_has f_X11_has
  rcases and1 (s >>> (p &&& 31)) with h | h
  · rw [h]; simp
  · rw [h]; simp
theorem pc_mono {s t : Nat} (h : s &&& t = s) : ∀ n, pc s n ≤ pc t n
  | 0 => Nat.le_refl _
  | n + 1 => by
    have h1 := pc_mono h n
    rw [pc, pc]
    have h2 : s.testBit n = true → t.testBit n = true := by
      intro q
      rw [← h, Nat.testBit_and] at q
      cases ht : t.testBit n with
      | true => rfl
      | false => rw [ht] at q; simp at q
    by_cases q : s.testBit n = true
    · rw [if_pos q, if_pos (h2 q)]; omega
    · rw [if_neg q]; omega
theorem pc_lt {s t x : Nat} (h : s &&& t = s) (h1 : t.testBit x = true) (h2 : s.testBit x = false) : ∀ n, x < n → pc s n < pc t n
  | 0, h => by omega
  | n + 1, hx => by
    by_cases q : x = n
    · subst q
      have := pc_mono h x
      rw [pc, pc, h1, h2]
      simp only [Bool.false_eq_true, if_false, if_true]
      omega
    · have h3 := pc_lt h h1 h2 n (by omega)
      have h4 : s.testBit n = true → t.testBit n = true := by
        intro q
        rw [← h, Nat.testBit_and] at q
        cases ht : t.testBit n with
        | true => rfl
        | false => rw [ht] at q; simp at q
      rw [pc, pc]
      by_cases q : s.testBit n = true
      · rw [if_pos q, if_pos (h4 q)]; omega
      · rw [if_neg q]; omega
theorem sub_ex {s t : Nat} (h : s &&& t = s) (hne : s ≠ t) : ∃ x, t.testBit x = true ∧ s.testBit x = false := by
  apply Classical.byContradiction
  intro hn
  apply hne
  apply Nat.eq_of_testBit_eq
  intro i
  have h2 : s.testBit i = true → t.testBit i = true := by
    intro q
    rw [← h, Nat.testBit_and] at q
    cases ht : t.testBit i with
    | true => rfl
    | false => rw [ht] at q; simp at q
  cases hs : s.testBit i with
  | true => exact (h2 hs).symm
  | false =>
    cases ht : t.testBit i with
    | true => exact absurd ⟨i, ht, hs⟩ hn
    | false => rfl
theorem pc_sub {s t : Nat} (ht : t < 4096) (h : s &&& t = s) (hne : s ≠ t) : pc s 12 < pc t 12 := by
  obtain ⟨x, h1, h2⟩ := sub_ex h hne
  refine pc_lt h h1 h2 12 ?_
  apply Decidable.byContradiction
  intro q
  rw [tb_hi (n := 12) ht (by omega)] at h1
  exact absurd h1 (by decide)
theorem xa0 (x y s : Nat) : (x ^^^ y) &&& s = 0 ↔ x &&& s = y &&& s := by
  constructor
  · intro h
    apply Nat.eq_of_testBit_eq
    intro i
    have := congrArg (fun z => z.testBit i) h
    simp only [Nat.testBit_and, Nat.testBit_xor, Nat.zero_testBit] at this ⊢
    generalize x.testBit i = b1 at this ⊢
    generalize y.testBit i = b2 at this ⊢
    generalize s.testBit i = b3 at this ⊢
    revert this
    cases b1 <;> cases b2 <;> cases b3 <;> decide
  · intro h
    apply Nat.eq_of_testBit_eq
    intro i
    have := congrArg (fun z => z.testBit i) h
    simp only [Nat.testBit_and, Nat.testBit_xor, Nat.zero_testBit] at this ⊢
    generalize x.testBit i = b1 at this ⊢
    generalize y.testBit i = b2 at this ⊢
    generalize s.testBit i = b3 at this ⊢
    revert this
    cases b1 <;> cases b2 <;> cases b3 <;> decide
theorem subN {s a : Nat} (hs : s < 4096) (ha : a < 4096) : (nI s &&& (nI a ^^^ (-1))) = 0 ↔ s &&& a = s := by
  rw [subI ha]
  constructor
  · rintro ⟨s', h1, h2, h3⟩
    have : s = s' := (nI_eq (by omega) (by omega)).mp h2
    rw [this]; exact h3
  · intro h
    exact ⟨s, hs, rfl, h⟩
theorem unl10 {th : Int32} {md ov : Nat → Int32} (hT : Tree th md) (ho : ∀ x, x < 12 → ov x = nI (ab th md x)) {a b : Nat} (ha : a < 12) (hb' : b < 12) (ta : hb th a = true) (tb : hb th b = true) : f_X3_nodesBelowOne (nI a) (nI b) ov = some (nI (wy md a ^^^ wy md b)) := by
  unfold f_X3_nodesBelowOne
  have h1 := (wy_ind hT a ha ta).2.2
  have h2 := (wy_ind hT b hb' tb).2.2
  have e : bs (fun x => (wy md a ^^^ wy md b).testBit x) 12 = wy md a ^^^ wy md b := by
    apply Nat.eq_of_testBit_eq
    intro i
    rw [bs_bit]
    by_cases hi : i < 12
    · simp [hi]
    · rw [tb_hi (Nat.xor_lt_two_pow h1 h2) (by omega)]; simp [hi]
  refine Eq.trans (itv 12 (fun N i => LX3_nodesBelowOne_5 (nI a) (nI b) ov (fun x3 _ => some x3) N (nI (bs (fun x => (wy md a ^^^ wy md b).testBit x) i)) (nI i)) _ ?_ ?_ FU 0 (by omega) (fu_lt (by omega))) (?_ : some (nI (bs (fun x => (wy md a ^^^ wy md b).testBit x) 12)) = _)
  · intro N
    show LX3_nodesBelowOne_5 (nI a) (nI b) ov _ (N + 1) _ (nI 12) = _
    rw [LX3_nodesBelowOne_5_s, if_pos (by decide)]
  · intro N i hi
    show LX3_nodesBelowOne_5 (nI a) (nI b) ov _ (N + 1) (nI (bs _ i)) (nI i) = LX3_nodesBelowOne_5 (nI a) (nI b) ov _ N (nI (bs _ (i + 1))) (nI (i + 1))
    have hab := ab_lt th md i
    rw [LX3_nodesBelowOne_5_s, if_neg (lt12 hi), ri_nI hi (by decide), ho i hi, has10, sb', ri_nI hi (by decide), ho i hi, has10, sb', hb_nI (by omega) (by omega), hb_nI (by omega) (by omega), ab_bit ha ta, ab_bit hb' tb, ib, lt_eq, lt_eq, nI_1, shl1 i hi, bs]
    congr 1
    rw [Nat.testBit_xor]
    cases (wy md a).testBit i <;> cases (wy md b).testBit i
    · simp [Int32.or_zero]
    · rw [if_neg (by decide), or_nI]; rfl
    · rw [if_neg (by decide), or_nI]; rfl
    · simp [Int32.or_zero]
  · rw [e]
def tri : Nat → Nat
  | 0 => 0
  | n + 1 => tri n + n
theorem tri_b : ∀ a, a < 12 → tri a + a ≤ 66 := by decide
/-- a row of what tells the pairs apart -/
def PL (W : Nat → Nat → Prop) (u : Nat → Nat → Int32) (h l c : Nat) (f : Nat → Int32) : Prop := (∀ i, i < c → ∃ a b, b < a ∧ (a < h ∨ (a = h ∧ b < l)) ∧ W a b ∧ f i = u a b) ∧ (∀ a b, b < a → (a < h ∨ (a = h ∧ b < l)) → W a b → ∃ i, i < c ∧ f i = u a b)
theorem PL.skip {W : Nat → Nat → Prop} {u : Nat → Nat → Int32} {h l c : Nat} {f : Nat → Int32} (H : PL W u h l c f) (hW : ¬ W h l) : PL W u h (l + 1) c f := by
  constructor
  · intro i hi
    obtain ⟨a, b, h1, h2, h3, h4⟩ := H.1 i hi
    exact ⟨a, b, h1, by omega, h3, h4⟩
  · intro a b h1 h2 h3
    by_cases q : a = h ∧ b = l
    · rw [q.1, q.2] at h3; exact absurd h3 hW
    · exact H.2 a b h1 (by omega) h3
theorem PL.put {W : Nat → Nat → Prop} {u : Nat → Nat → Int32} {h l c : Nat} {f : Nat → Int32} (H : PL W u h l c f) (hl : l < h) (hW : W h l) : PL W u h (l + 1) (c + 1) (upd f c (u h l)) := by
  constructor
  · intro i hi
    by_cases q : i = c
    · subst q; exact ⟨h, l, hl, by omega, hW, pk_us⟩
    · obtain ⟨a, b, h1, h2, h3, h4⟩ := H.1 i (by omega)
      exact ⟨a, b, h1, by omega, h3, by rw [pk_un q]; exact h4⟩
  · intro a b h1 h2 h3
    by_cases q : a = h ∧ b = l
    · exact ⟨c, by omega, by rw [pk_us, q.1, q.2]⟩
    · obtain ⟨i, h4, h5⟩ := H.2 a b h1 (by omega) h3
      exact ⟨i, by omega, by rw [pk_un (by omega)]; exact h5⟩
theorem PL.next {W : Nat → Nat → Prop} {u : Nat → Nat → Int32} {h c : Nat} {f : Nat → Int32} (H : PL W u h h c f) : PL W u (h + 1) 0 c f := by
  constructor
  · intro i hi
    obtain ⟨a, b, h1, h2, h3, h4⟩ := H.1 i hi
    exact ⟨a, b, h1, by omega, h3, h4⟩
  · intro a b h1 h2 h3
    exact H.2 a b h1 (by omega) h3
def wan (th : Int32) (md wk lk : Nat → Int32) (p0 : Int32) (a b : Nat) : Prop := (srN th lk).testBit a = true ∧ (srN th lk).testBit b = true ∧ ¬ wk2 md wk a b ≤ p0
theorem pairs10 {th : Int32} {md td wk ov lk : Nat → Int32} (hT : Tree th md) (hd : ∀ v, v < 12 → hb th v = true → td v = md v) (ho : ∀ x, x < 12 → ov x = nI (ab th md x)) (p0 : Int32) (l0 : Nat → Int32) : ∃ (c : Nat) (l : Nat → Int32), c ≤ 66 ∧ f_X3_pairsFartherThan p0 td wk (nI (srN th lk)) ov l0 = some (nI c, l) ∧ PL (wan th md wk lk p0) (fun a b => nI (wy md a ^^^ wy md b)) 12 0 c l := by
  unfold f_X3_pairsFartherThan
  have hl := sr_lt th lk
  obtain ⟨⟨x, l⟩, ⟨c, hc, e1, hP⟩, e⟩ := its (S := Int32 × (Nat → Int32)) 12 (fun h s => ∃ c, c ≤ tri h ∧ s.1 = nI c ∧ PL (wan th md wk lk p0) (fun a b => nI (wy md a ^^^ wy md b)) h 0 c s.2) (fun N h s => LX3_pairsFartherThan_4 p0 td wk (nI (srN th lk)) ov (fun x4 _ f6 => some (x4, f6)) N s.1 (nI h) s.2) (fun s => some s) (by
    intro N s _
    show LX3_pairsFartherThan_4 p0 td wk (nI (srN th lk)) ov _ (N + 1) s.1 (nI 12) s.2 = _
    rw [LX3_pairsFartherThan_4_s, if_pos (by decide)]) (by
    rintro N h ⟨x, l⟩ hh ⟨c, hc, e1, hP⟩
    dsimp only at e1 hP ⊢
    subst e1
    obtain ⟨⟨y, l'⟩, ⟨c', hc', e2, hP'⟩, e'⟩ := its (S := Int32 × (Nat → Int32)) h (fun j s => ∃ c, c ≤ tri h + j ∧ s.1 = nI c ∧ PL (wan th md wk lk p0) (fun a b => nI (wy md a ^^^ wy md b)) h j c s.2) (fun M j s => LX3_pairsFartherThan_13 p0 td wk (nI (srN th lk)) ov (nI h) (fun x11 _ f13 => lt (nI h + 1 : Int32) fun x27 => LX3_pairsFartherThan_4 p0 td wk (nI (srN th lk)) ov (fun x4 _ f6 => some (x4, f6)) N x11 x27 f13) M s.1 (nI j) s.2) (fun s => LX3_pairsFartherThan_4 p0 td wk (nI (srN th lk)) ov (fun x4 _ f6 => some (x4, f6)) N s.1 (nI (h + 1)) s.2) (by
      intro M s _
      show LX3_pairsFartherThan_13 p0 td wk (nI (srN th lk)) ov (nI h) _ (M + 1) s.1 (nI h) s.2 = _
      rw [LX3_pairsFartherThan_13_s, if_pos (nI_le (Nat.le_refl _) (by omega)), lt_eq, nI_1]) (by
      rintro M j ⟨y, f⟩ hj ⟨c, hc, e1, hP⟩
      dsimp only at e1 hP ⊢
      subst e1
      have hb66 := tri_b h hh
      have skip : ¬ wan th md wk lk p0 h j → ∃ s' : Int32 × (Nat → Int32), (∃ c, c ≤ tri h + (j + 1) ∧ s'.1 = nI c ∧ PL (wan th md wk lk p0) (fun a b => nI (wy md a ^^^ wy md b)) h (j + 1) c s'.2) ∧ s' = (nI c, f) := fun q => ⟨(nI c, f), ⟨c, by omega, rfl, hP.skip q⟩, rfl⟩
      rw [LX3_pairsFartherThan_13_s, if_neg (nI_ge hj (by omega)), has10, sb', hb_nI (by omega) (by omega)]
      by_cases q1 : (srN th lk).testBit h = true
      · rw [if_pos q1, if_neg one_ne, has10, sb', hb_nI (by omega) (by omega)]
        by_cases q2 : (srN th lk).testBit j = true
        · rw [if_pos q2, if_neg one_ne, mb10 hT hd hh (by omega) (sr_bit q1).2.1 (sr_bit q2).2.1, sb']
          by_cases q3 : wk2 md wk h j ≤ p0
          · obtain ⟨s', i1, i2⟩ := skip (fun w => w.2.2 q3)
            refine ⟨s', i1, ?_⟩
            rw [if_pos q3, sb', lt_eq, nI_1 j, i2]
          · refine ⟨(nI (c + 1), upd f c (nI (wy md h ^^^ wy md j))), ⟨c + 1, by omega, rfl, hP.put hj ⟨q1, q2, q3⟩⟩, ?_⟩
            rw [if_neg q3, unl10 hT ho hh (by omega) (sr_bit q1).2.1 (sr_bit q2).2.1, sb', wi_nI (by omega) (by decide), lt_eq, sb', lt_eq, nI_1 c, nI_1 j]
        · obtain ⟨s', i1, i2⟩ := skip (fun w => q2 w.2.1)
          refine ⟨s', i1, ?_⟩
          rw [if_neg q2, if_pos rfl, sb', lt_eq, nI_1 j, i2]
      · obtain ⟨s', i1, i2⟩ := skip (fun w => q1 w.1)
        refine ⟨s', i1, ?_⟩
        rw [if_neg q1, if_pos rfl, sb', lt_eq, nI_1 j, i2]) FU 0 (nI c, l) (by omega) (fu_lt (by omega)) ⟨c, by omega, rfl, hP⟩
    dsimp only at e2 hP' e'
    subst e2
    refine ⟨(nI c', l'), ⟨c', by rw [tri]; exact hc', rfl, hP'.next⟩, ?_⟩
    dsimp only
    rw [LX3_pairsFartherThan_4_s, if_neg (lt12 hh)]
    exact e') FU 0 (0, l0) (by omega) (fu_lt (by omega)) ⟨0, Nat.zero_le _, rfl, fun i hi => by omega, fun a b h1 h2 => by omega⟩
  dsimp only at e1 hP
  subst e1
  exact ⟨c, l, Nat.le_trans hc (by decide), e, hP⟩
theorem apart10 {s c : Nat} {l : Nat → Int32} (hc : c ≤ 66) : (f_X3_tellsApart (nI s) (nI c) l = some 1 ∧ ∀ i, i < c → ¬ (l i &&& nI s) = 0) ∨ (f_X3_tellsApart (nI s) (nI c) l = some 0 ∧ ∃ i, i < c ∧ (l i &&& nI s) = 0) := by
  unfold f_X3_tellsApart
  have key : ∀ d i, i + d = c → ∀ N, d < N → (LX3_tellsApart_2 (nI s) (nI c) l (fun _ => some 1) N (nI i) = some 1 ∧ ∀ j, i ≤ j → j < c → ¬ (l j &&& nI s) = 0) ∨ (LX3_tellsApart_2 (nI s) (nI c) l (fun _ => some 1) N (nI i) = some 0 ∧ ∃ i, i < c ∧ (l i &&& nI s) = 0) := by
    intro d
    induction d with
    | zero =>
      intro i hi N hN
      obtain ⟨m, rfl⟩ : ∃ m, N = m + 1 := ⟨N - 1, by omega⟩
      have : i = c := by omega
      subst this
      refine Or.inl ⟨?_, fun j h1 h2 => by omega⟩
      rw [LX3_tellsApart_2_s, if_pos (nI_le (Nat.le_refl _) (by omega))]
    | succ d ih =>
      intro i hi N hN
      obtain ⟨m, rfl⟩ : ∃ m, N = m + 1 := ⟨N - 1, by omega⟩
      rw [LX3_tellsApart_2_s, if_neg (nI_ge (by omega) (by omega)), ri_nI (by omega) (by decide)]
      by_cases q : (l i &&& nI s) = 0
      · rw [if_pos q]
        exact Or.inr ⟨rfl, i, by omega, q⟩
      · rw [if_neg q, lt_eq, nI_1]
        rcases ih (i + 1) (by omega) m (by omega) with ⟨h1, h2⟩ | h
        · refine Or.inl ⟨h1, fun j h3 h4 => ?_⟩
          by_cases w : j = i
          · subst w; exact q
          · exact h2 j (by omega) h4
        · exact Or.inr h
  rcases key c 0 (by omega) FU (fu_lt (by omega)) with ⟨h1, h2⟩ | h
  · exact Or.inl ⟨h1, fun i hi => h2 i (by omega) hi⟩
  · exact Or.inr h
/-- cups at these nodes tell all apart -/
def gds (th : Int32) (md wk lk : Nat → Int32) (p0 : Int32) (s : Nat) : Prop := ∀ a b, b < a → a < 12 → wan th md wk lk p0 a b → wy md a &&& s ≠ wy md b &&& s
theorem hang76 {th : Int32} {md wk lk av ap : Nat → Int32} (hT : Tree th md) (hap : ∀ x y, x < 12 → y < 12 → hb th x = true → hb th y = true → ap (12 * x + y) = wk2 md wk x y) (p0 : Int32) {s : Nat} (hs : s < 4096) (ko : Int32 → Int32 → Option (Int32 × (Nat → Int32) × (Nat → Int32))) : (∃ j, LX11_hang_76 p0 md (av, ap) (nI (srN th lk)) (nI s) ko FU 1 0 = ko 1 j ∧ gds th md wk lk p0 s) ∨ (∃ j, LX11_hang_76 p0 md (av, ap) (nI (srN th lk)) (nI s) ko FU 1 0 = ko 0 j ∧ ¬ gds th md wk lk p0 s) := by
  have hl := sr_lt th lk
  have key : ∀ d k, k + d = 144 → ∀ N, d + 1 < N → (∃ j, LX11_hang_76 p0 md (av, ap) (nI (srN th lk)) (nI s) ko N 1 (nI k) = ko 1 j ∧ ∀ k', k ≤ k' → k' < 144 → k' / 12 < k' % 12 → wan th md wk lk p0 (k' / 12) (k' % 12) → wy md (k' / 12) &&& s ≠ wy md (k' % 12) &&& s) ∨ (∃ j, LX11_hang_76 p0 md (av, ap) (nI (srN th lk)) (nI s) ko N 1 (nI k) = ko 0 j ∧ ∃ a b, a < b ∧ b < 12 ∧ wan th md wk lk p0 a b ∧ wy md a &&& s = wy md b &&& s) := by
    intro d
    induction d with
    | zero =>
      intro k hk N hN
      obtain ⟨m, rfl⟩ : ∃ m, N = m + 1 := ⟨N - 1, by omega⟩
      have : k = 144 := by omega
      subst this
      refine Or.inl ⟨nI 144, ?_, fun j h1 h2 => by omega⟩
      rw [LX11_hang_76_s, if_pos (by decide)]
    | succ d ih =>
      intro k hk N hN
      obtain ⟨m, rfl⟩ : ∃ m, N = m + 1 := ⟨N - 1, by omega⟩
      have e1 : nI k / 12 = nI (k / 12) := pk_div (d := 12) (by omega) (by decide) (by decide)
      have e2 : nI k - nI k / 12 * 12 = nI (k % 12) := pk_rem (d := 12) (by omega) (by decide) (by decide)
      rw [LX11_hang_76_s, if_neg (show ¬ (144 : Int32) ≤ nI k from nI_ge (a := k) (b := 144) (by omega) (by decide)), if_neg one_ne, nz_ok (by decide), lt_eq, nz_ok (by decide), lt_eq, e2, e1]
      have skip : ¬ (k / 12 < k % 12 ∧ wan th md wk lk p0 (k / 12) (k % 12)) → ∀ X, X = LX11_hang_76 p0 md (av, ap) (nI (srN th lk)) (nI s) ko m 1 (nI (k + 1)) → (∃ j, X = ko 1 j ∧ ∀ k', k ≤ k' → k' < 144 → k' / 12 < k' % 12 → wan th md wk lk p0 (k' / 12) (k' % 12) → wy md (k' / 12) &&& s ≠ wy md (k' % 12) &&& s) ∨ (∃ j, X = ko 0 j ∧ ∃ a b, a < b ∧ b < 12 ∧ wan th md wk lk p0 a b ∧ wy md a &&& s = wy md b &&& s) := by
        rintro hn X rfl
        rcases ih (k + 1) (by omega) m (by omega) with ⟨j, h1, h2⟩ | h
        · refine Or.inl ⟨j, h1, fun k' h3 h4 h5 h6 => ?_⟩
          by_cases w : k' = k
          · subst w; exact absurd ⟨h5, h6⟩ hn
          · exact h2 k' (by omega) h4 h5 h6
        · exact Or.inr h
      by_cases q0 : k % 12 ≤ k / 12
      · refine skip (fun w => by omega) _ ?_
        rw [if_pos (nI_le q0 (by omega)), sb', if_pos rfl, sb', lt_eq, nI_1]
      · rw [if_neg (nI_ge (by omega) (by omega)), has11, sb', hb_nI (by omega) (by omega)]
        by_cases q1 : (srN th lk).testBit (k / 12) = true
        · rw [if_pos q1, if_neg one_ne, has11, sb', hb_nI (by omega) (by omega)]
          by_cases q2 : (srN th lk).testBit (k % 12) = true
          · have t1 := (sr_bit q1).2.1
            have t2 := (sr_bit q2).2.1
            have w1 : (12 : Int32) * nI (k / 12) + nI (k % 12) = nI (12 * (k / 12) + k % 12) := by
              rw [show (12 : Int32) * nI (k / 12) = nI (12 * (k / 12)) from pk_mul 12 _, nI_add]
            rw [if_pos q2, if_neg one_ne, w1, ri_nI (by omega) (by decide)]
            rw [show (av, ap).snd (12 * (k / 12) + k % 12) = wk2 md wk (k / 12) (k % 12) from hap _ _ (by omega) (by omega) t1 t2]
            by_cases q3 : wk2 md wk (k / 12) (k % 12) ≤ p0
            · refine skip (fun w => w.2.2.2 q3) _ ?_
              rw [if_pos q3, sb', if_pos rfl, sb', lt_eq, nI_1]
            · have y1 := (wy_ind hT (k / 12) (by omega) t1).2.2
              have y2 := (wy_ind hT (k % 12) (by omega) t2).2.2
              have z1 : wy md (k / 12) &&& s < 2 ^ 12 := Nat.lt_of_le_of_lt Nat.and_le_left y1
              have z2 : wy md (k % 12) &&& s < 2 ^ 12 := Nat.lt_of_le_of_lt Nat.and_le_left y2
              rw [if_neg q3, sb', if_neg one_ne, wayOf11 hT (by omega) t1, sb', wayOf11 hT (by omega) t2, sb', and_nI, and_nI]
              by_cases q4 : wy md (k / 12) &&& s = wy md (k % 12) &&& s
              · rw [q4, if_pos rfl, sb', lt_eq, nI_1]
                obtain ⟨m', rfl⟩ : ∃ m', m = m' + 1 := ⟨m - 1, by omega⟩
                refine Or.inr ⟨nI (k + 1), ?_, k / 12, k % 12, by omega, by omega, ⟨q1, q2, q3⟩, q4⟩
                rw [LX11_hang_76_s, if_pos rfl]
                split <;> rfl
              · rw [if_neg (fun w => q4 ((nI_eq (by omega) (by omega)).mp w)), sb', lt_eq, nI_1]
                rcases ih (k + 1) (by omega) m (by omega) with ⟨j, h1, h2⟩ | h
                · refine Or.inl ⟨j, h1, fun k' h3 h4 h5 h6 => ?_⟩
                  by_cases w : k' = k
                  · subst w; exact q4
                  · exact h2 k' (by omega) h4 h5 h6
                · exact Or.inr h
          · refine skip (fun w => q2 w.2.2.1) _ ?_
            rw [if_neg q2, if_pos rfl, sb', if_pos rfl, sb', lt_eq, nI_1]
        · refine skip (fun w => q1 w.2.1) _ ?_
          rw [if_neg q1, if_pos rfl, sb', if_pos rfl, sb', lt_eq, nI_1]
  rcases key 144 0 (by omega) FU (fu_lt (by omega)) with ⟨j, h1, h2⟩ | ⟨j, h1, a, b, h2, h3, h4, h5⟩
  · refine Or.inl ⟨j, h1, fun a b hba ha hw => ?_⟩
    have e1 : (12 * b + a) / 12 = b := by omega
    have e2 : (12 * b + a) % 12 = a := by omega
    have := h2 (12 * b + a) (by omega) (by omega) (by omega)
    rw [e1, e2] at this
    refine fun q => this ⟨hw.2.1, hw.1, ?_⟩ q.symm
    rw [wk2_sym]; exact hw.2.2
  · refine Or.inr ⟨j, h1, fun hg => ?_⟩
    refine hg b a h2 h3 ⟨h4.2.1, h4.1, ?_⟩ h5.symm
    rw [wk2_sym]; exact h4.2.2
theorem hang76z {md av ap : Nat → Int32} {p0 q4 x7 : Int32} (ko : Int32 → Int32 → Option (Int32 × (Nat → Int32) × (Nat → Int32))) : LX11_hang_76 p0 md (av, ap) q4 x7 ko FU 0 0 = ko 0 0 := by
  rw [fu_s, LX11_hang_76_s, if_pos rfl]
  split <;> rfl
/-- the best set of cups to hang -/
def bst (t : Nat) (g : Nat → Prop) (i b : Nat) : Prop := b &&& t = b ∧ g b ∧ ∀ s, s < i → s &&& t = s → g s → pc b 12 ≤ pc s 12 ∧ (s < b → pc b 12 < pc s 12)
theorem bst_u {t : Nat} {g : Nat → Prop} {b b' : Nat} (ht : t < 4096) (h : bst t g 4096 b) (h' : bst t g 4096 b') : b = b' := by
  have l1 : b ≤ t := by rw [← h.1]; exact Nat.and_le_right
  have l2 : b' ≤ t := by rw [← h'.1]; exact Nat.and_le_right
  obtain ⟨a1, a2⟩ := h.2.2 b' (by omega) h'.1 h'.2.1
  obtain ⟨b1, b2⟩ := h'.2.2 b (by omega) h.1 h.2.1
  apply Decidable.byContradiction
  intro q
  by_cases w : b < b'
  · have := b2 w; omega
  · have := a2 (by omega); omega
/-- promise 25 -/
theorem p_hang {th : Int32} {md td wk ov lk : Nat → Int32} (t : Nat) (ht : th = nI t) (ht2 : t < 4096) (hT : Tree th md) (hd : ∀ v, v < 12 → hb th v = true → td v = md v) (ho : ∀ x, x < 12 → ov x = nI (ab th md x)) (l0 av ap : Nat → Int32) (p0 : Int32) : ∃ (r : Int32) (l' av' ap' : Nat → Int32), f_X10_hang p0 td wk th (nI (srN th lk)) ov l0 = some (r, l') ∧ f_X11_hang p0 md wk lk av ap th = some (r, av', ap') := by
  unfold f_X10_hang f_X11_hang
  rw [inI p0 0 999 (B := 0) (C := 999) rfl rfl, sb']
  by_cases h1 : 0 ≤ p0 ∧ p0 ≤ 999
  · rw [if_pos h1, if_neg one_ne, if_neg (Int32.not_lt.mpr h1.1), if_pos h1.2]
    obtain ⟨c, l, hc, e1, hP⟩ := pairs10 (lk := lk) hT hd ho p0 l0
    obtain ⟨av', ap', e2, hav, hap⟩ := ways11 (wk := wk) hT av ap
    unfold f_X3_fewestToHang
    rw [e1, sb', e2, sb', src11, sb', lt_eq]
    have hl := sr_lt th lk
    have gt : gds th md wk lk p0 t := by
      intro a b hba ha hw q
      obtain ⟨_, ta, _⟩ := sr_bit hw.1
      obtain ⟨_, tb, _⟩ := sr_bit hw.2.1
      have q2 := congrArg (fun z => z.testBit a) q
      simp only [Nat.testBit_and] at q2
      have w1 := (wy_ind hT a ha ta).2.1
      have w2 : (wy md b).testBit a = false := by
        cases hz : (wy md b).testBit a with
        | false => rfl
        | true => have := ((wy_ind hT b (by omega) tb).1 a hz).1; omega
      have w3 : t.testBit a = true := by
        rw [ht, hb_nI (by omega) (by omega)] at ta; exact ta
      rw [w1, w2, w3] at q2
      exact absurd q2 (by decide)
    have tell : ∀ s, s < 4096 → (f_X3_tellsApart (nI s) (nI c) l = some 1 ∧ gds th md wk lk p0 s) ∨ (f_X3_tellsApart (nI s) (nI c) l = some 0 ∧ ¬ gds th md wk lk p0 s) := by
      intro s hs
      have bit : ∀ a b, b < a → a < 12 → wan th md wk lk p0 a b → ((nI (wy md a ^^^ wy md b) &&& nI s) = 0 ↔ wy md a &&& s = wy md b &&& s) := by
        intro a b hba ha hw
        obtain ⟨_, ta, _⟩ := sr_bit hw.1
        obtain ⟨_, tb, _⟩ := sr_bit hw.2.1
        have y1 := (wy_ind hT a ha ta).2.2
        have y2 := (wy_ind hT b (by omega) tb).2.2
        rw [← xa0, and_nI]
        have z : (wy md a ^^^ wy md b) &&& s < 2 ^ 12 := Nat.lt_of_le_of_lt Nat.and_le_left (Nat.xor_lt_two_pow y1 y2)
        constructor
        · intro q; exact (nI_eq (b := 0) (by omega) (by decide)).mp q
        · intro q; rw [q]; rfl
      rcases apart10 (s := s) (l := l) hc with ⟨h2, h3⟩ | ⟨h2, i, h3, h4⟩
      · refine Or.inl ⟨h2, fun a b hba ha hw q => ?_⟩
        obtain ⟨i, hi, ei⟩ := hP.2 a b hba (Or.inl ha) hw
        have := h3 i hi
        rw [ei] at this
        exact this ((bit a b hba ha hw).mpr q)
      · obtain ⟨a, b, hba, ha, hw, ei⟩ := hP.1 i h3
        rw [ei] at h4
        have ha' : a < 12 := by omega
        exact Or.inr ⟨h2, fun hg => hg a b hba ha' hw ((bit a b hba ha' hw).mp h4)⟩
    -- the class
    obtain ⟨⟨x, y⟩, ⟨b, f1, f2, f3, f4⟩, k1⟩ := its (S := Int32 × Int32) t (fun i s => ∃ b, s.1 = nI b ∧ s.2 = nI (pc b 12) ∧ (b = t ∨ b < i) ∧ bst t (gds th md wk lk p0) i b) (fun N i s => LX3_fewestToHang_23 (nI t) (nI c, l) (fun x6 _ _ => some (x6, l)) N s.1 s.2 (nI i)) (fun s => some (s.1, l)) (by
      intro N s _
      show LX3_fewestToHang_23 (nI t) (nI c, l) _ (N + 1) s.1 s.2 (nI t) = _
      rw [LX3_fewestToHang_23_s, if_pos (nI_le (Nat.le_refl _) (by omega))]) (by
      rintro N i ⟨x, y⟩ hi ⟨b, f1, f2, f3, f4⟩
      dsimp only at f1 f2 ⊢
      subst f1 f2
      have keep : (i &&& t = i → gds th md wk lk p0 i → pc b 12 ≤ pc i 12) → ∃ b', (nI b : Int32) = nI b' ∧ nI (pc b 12) = nI (pc b' 12) ∧ (b' = t ∨ b' < i + 1) ∧ bst t (gds th md wk lk p0) (i + 1) b' := by
        intro q
        refine ⟨b, rfl, rfl, by omega, f4.1, f4.2.1, fun s hs h2 h3 => ?_⟩
        by_cases w : s = i
        · subst w
          refine ⟨q h2 h3, fun hsb => ?_⟩
          rcases f3 with f3 | f3
          · subst f3
            have := pc_sub ht2 h2 (by omega)
            have := q h2 h3
            omega
          · omega
        · exact f4.2.2 s (by omega) h2 h3
      rw [LX3_fewestToHang_23_s, if_neg (nI_ge hi (by omega))]
      by_cases q1 : i &&& t = i
      · rw [if_pos ((subN (by omega) ht2).mpr q1), sb', if_neg one_ne, bc10 (by omega), sb']
        have p1 := pc_le b 12
        have p2 := pc_le i 12
        by_cases q2 : pc b 12 ≤ pc i 12
        · refine ⟨(nI b, nI (pc b 12)), keep (fun _ _ => q2), ?_⟩
          rw [if_pos (nI_le q2 (by omega)), sb', lt_eq, nI_1]
        · rw [if_neg (nI_ge (by omega) (by omega))]
          rcases tell i (by omega) with ⟨t1, t2⟩ | ⟨t1, t2⟩
          · refine ⟨(nI i, nI (pc i 12)), ⟨i, rfl, rfl, by omega, q1, t2, fun s hs h2 h3 => ?_⟩, ?_⟩
            · by_cases w : s = i
              · subst w; exact ⟨Nat.le_refl _, fun w => by omega⟩
              · obtain ⟨g1, g2⟩ := f4.2.2 s (by omega) h2 h3
                exact ⟨by omega, fun _ => by omega⟩
            · dsimp only
              rw [t1, sb', if_neg one_ne, sb', sb', lt_eq, nI_1]
          · refine ⟨(nI b, nI (pc b 12)), keep (fun _ w => absurd w t2), ?_⟩
            dsimp only
            rw [t1, sb', if_pos rfl, sb', lt_eq, nI_1]
      · refine ⟨(nI b, nI (pc b 12)), keep (fun w _ => absurd w q1), ?_⟩
        rw [if_neg (fun w => q1 ((subN (by omega) ht2).mp w)), sb', if_pos rfl, sb', lt_eq, nI_1]) FU 0 (nI t, nI (pc t 12)) (by omega) (fu_lt (by omega)) ⟨t, rfl, rfl, Or.inl rfl, Nat.and_self t, gt, fun s hs => by omega⟩
    dsimp only at f1 f2 k1
    subst f1
    have b1 : bst t (gds th md wk lk p0) 4096 b := by
      refine ⟨f4.1, f4.2.1, fun s hs h2 h3 => ?_⟩
      have l1 : s ≤ t := by rw [← h2]; exact Nat.and_le_right
      have l2 : b ≤ t := by rw [← f4.1]; exact Nat.and_le_right
      by_cases w : s = t
      · subst w
        exact ⟨pc_mono f4.1 12, fun w => by omega⟩
      · exact f4.2.2 s (by omega) h2 h3
    -- the reference
    obtain ⟨z, i1, k2⟩ := its (S := Int32) 4096 (fun i z => (z = -1 ∧ ∀ s, s < i → s &&& t = s → ¬ gds th md wk lk p0 s) ∨ ∃ b, z = nI b ∧ b < i ∧ bst t (gds th md wk lk p0) i b) (fun N i z => LX11_hang_29 p0 md th (av', ap') (nI (srN th lk)) (fun x8 _ => some (x8, av', ap')) N z (nI i)) (fun z => some (z, av', ap')) (by
      intro N z _
      show LX11_hang_29 p0 md th (av', ap') (nI (srN th lk)) _ (N + 1) z (nI 4096) = _
      rw [LX11_hang_29_s, if_pos (by decide)]) (by
      intro N i z hi hI
      have n1 : ∀ b, b < 4096 → ¬ nI b = -1 := fun b hb w => by
        have := nI_pos' (n := b) (by omega)
        rw [w] at this
        exact absurd this (by decide)
      have keep : (i &&& t = i → gds th md wk lk p0 i → ∃ b, z = nI b ∧ pc b 12 ≤ pc i 12 ∧ b < 4096) → ((z = -1 ∧ ∀ s, s < i + 1 → s &&& t = s → ¬ gds th md wk lk p0 s) ∨ ∃ b, z = nI b ∧ b < i + 1 ∧ bst t (gds th md wk lk p0) (i + 1) b) := by
        intro q
        rcases hI with ⟨h2, h3⟩ | ⟨b', h2, h3, h4⟩
        · refine Or.inl ⟨h2, fun s hs h5 h6 => ?_⟩
          by_cases w : s = i
          · subst w
            obtain ⟨b', e, _, hb4⟩ := q h5 h6
            exact n1 b' hb4 (e.symm.trans h2)
          · exact h3 s (by omega) h5 h6
        · refine Or.inr ⟨b', h2, by omega, h4.1, h4.2.1, fun s hs h5 h6 => ?_⟩
          by_cases w : s = i
          · subst w
            obtain ⟨b2, e, hle, hb4⟩ := q h5 h6
            have : b' = b2 := (nI_eq (by omega) (by omega)).mp (h2.symm.trans e)
            rw [this]
            exact ⟨hle, fun w => by omega⟩
          · exact h4.2.2 s (by omega) h5 h6
      have take : i &&& t = i → gds th md wk lk p0 i → (∀ b, z = nI b → b < i → bst t (gds th md wk lk p0) i b → pc i 12 < pc b 12) → bst t (gds th md wk lk p0) (i + 1) i := by
        intro q1 q2 q3
        refine ⟨q1, q2, fun s hs h5 h6 => ?_⟩
        by_cases w : s = i
        · subst w; exact ⟨Nat.le_refl _, fun w => by omega⟩
        · rcases hI with ⟨h2, h3⟩ | ⟨b', h2, h3, h4⟩
          · exact absurd h6 (h3 s (by omega) h5)
          · have g0 := q3 b' h2 h3 h4
            obtain ⟨g1, g2⟩ := h4.2.2 s (by omega) h5 h6
            exact ⟨by omega, fun _ => by omega⟩
      have fin : ∀ X : Option Int32, (X = some 0 ∧ (i &&& t = i → gds th md wk lk p0 i → ∃ b, z = nI b ∧ pc b 12 ≤ pc i 12 ∧ b < 4096)) ∨ (X = some 1 ∧ i &&& t = i ∧ ∀ b, z = nI b → b < i → bst t (gds th md wk lk p0) i b → pc i 12 < pc b 12) → ∃ z', ((z' = -1 ∧ ∀ s, s < i + 1 → s &&& t = s → ¬ gds th md wk lk p0 s) ∨ ∃ b, z' = nI b ∧ b < i + 1 ∧ bst t (gds th md wk lk p0) (i + 1) b) ∧ (X.bind fun q11 => LX11_hang_76 p0 md (av', ap') (nI (srN th lk)) (nI i) (fun x14 _ => (if x14 = 0 then some z else some (nI i) : Option Int32).bind fun q37 => lt (nI i + 1 : Int32) fun x38 => LX11_hang_29 p0 md th (av', ap') (nI (srN th lk)) (fun x8 _ => some (x8, av', ap')) N q37 x38) FU q11 0) = LX11_hang_29 p0 md th (av', ap') (nI (srN th lk)) (fun x8 _ => some (x8, av', ap')) N z' (nI (i + 1)) := by
        intro X hX
        rcases hX with ⟨rfl, q⟩ | ⟨rfl, q, q'⟩
        · refine ⟨z, keep q, ?_⟩
          rw [sb', hang76z, if_pos rfl, sb', lt_eq, nI_1]
        · rw [sb']
          rcases hang76 (lk := lk) (av := av') hT hap p0 (s := i) (by omega) (fun x14 _ => (if x14 = 0 then some z else some (nI i) : Option Int32).bind fun q37 => lt (nI i + 1 : Int32) fun x38 => LX11_hang_29 p0 md th (av', ap') (nI (srN th lk)) (fun x8 _ => some (x8, av', ap')) N q37 x38) with ⟨j, h2, h3⟩ | ⟨j, h2, h3⟩
          · refine ⟨nI i, Or.inr ⟨i, rfl, by omega, take q h3 q'⟩, ?_⟩
            rw [h2, if_neg one_ne, sb', lt_eq, nI_1]
          · refine ⟨z, keep (fun _ w => absurd w h3), ?_⟩
            rw [h2, if_pos rfl, sb', lt_eq, nI_1]
      rw [LX11_hang_29_s, if_neg (show ¬ (4096 : Int32) ≤ nI i from nI_ge (a := i) (b := 4096) hi (by decide))]
      apply fin
      by_cases q1 : i &&& t = i
      · rw [ht, if_pos ((subN (by omega) ht2).mpr q1)]
        rcases hI with ⟨h2, h3⟩ | ⟨b', h2, h3, h4⟩
        · rw [if_pos h2]
          refine Or.inr ⟨rfl, q1, fun b e hb _ => ?_⟩
          exact absurd (e.symm.trans h2) (n1 b (by omega))
        · rw [h2, if_neg (n1 b' (by omega)), many11 (by omega), sb', many11 (by omega), sb']
          have p1 := pc_le b' 12
          have p2 := pc_le i 12
          by_cases q2 : pc b' 12 ≤ pc i 12
          · rw [if_pos (nI_le q2 (by omega))]
            exact Or.inl ⟨rfl, fun _ _ => ⟨b', rfl, q2, by omega⟩⟩
          · rw [if_neg (nI_ge (by omega) (by omega))]
            refine Or.inr ⟨rfl, q1, fun b e hb _ => ?_⟩
            have : b' = b := (nI_eq (by omega) (by omega)).mp e
            rw [← this]; omega
      · rw [ht, if_neg (fun w => q1 ((subN (by omega) ht2).mp w))]
        exact Or.inl ⟨rfl, fun w => absurd w q1⟩) FU 0 (-1) (by omega) (fu_lt (by omega)) (Or.inl ⟨rfl, fun s hs => by omega⟩)
    rcases i1 with ⟨_, h3⟩ | ⟨b', h2, h3, h4⟩
    · exact absurd gt (h3 t ht2 (Nat.and_self t))
    · have : b' = b := bst_u ht2 h4 b1
      subst this
      subst h2
      refine ⟨nI b', l, av', ap', ?_, k2⟩
      rw [ht, bc10 ht2, sb', show LX3_fewestToHang_23 (nI t) (nI c, l) (fun x6 _ _ => some (x6, l)) FU (nI t) (nI (pc t 12)) 0 = some (nI b', l) from k1, sb']
  · rw [if_neg h1, if_pos rfl]
    by_cases h2 : p0 < 0
    · rw [if_pos h2]; exact ⟨_, _, _, _, rfl, rfl⟩
    · rw [if_neg h2, if_neg (fun q => h1 ⟨Int32.not_lt.mp h2, q⟩)]; exact ⟨_, _, _, _, rfl, rfl⟩
