/-! the class's own sets: over, sources; walk -/
theorem stand10 {th : Int32} {md td : Nat → Int32} (hT : Tree th md) (hd : ∀ v, v < 12 → hb th v = true → td v = md v) {v : Nat} (hv : v < 12) (hbv : hb th v = true) (f : Nat → Int32) : ∃ f' : Nat → Int32, f_X9_standOverAllBelow (nI v) td f = some f' ∧ ∀ x, x < 12 → f' x = if (wy md v).testBit x then f x ||| nI (2 ^ v) else f x :=
  stand_loop hT hd hv v hv hbv FU 0 f (by rw [fu_s]; omega) (by omega)
def srF (th : Int32) (lk : Nat → Int32) (v : Nat) : Bool := hb th v && decide (¬ lk v ≤ 0)
def srN (th : Int32) (lk : Nat → Int32) : Nat := bs (srF th lk) 12
theorem src_loop {th : Int32} {lk : Nat → Int32} (ko : Int32 → Int32 → Option Int32) : ∀ (d n i : Nat), i + d = 12 → d < n → LX11_sources_4 lk th ko n (nI (bs (srF th lk) i)) (nI i) = ko (nI (srN th lk)) 12 := by
  intro d
  induction d with
  | zero =>
    intro n i h1 h2
    obtain ⟨m, rfl⟩ : ∃ m, n = m + 1 := ⟨n - 1, by omega⟩
    have : i = 12 := by omega
    subst this
    rw [LX11_sources_4_s, if_pos (by decide)]
    rfl
  | succ d ih =>
    intro n i h1 h2
    obtain ⟨m, rfl⟩ : ∃ m, n = m + 1 := ⟨n - 1, by omega⟩
    rw [LX11_sources_4_s, if_neg (show ¬ (12 : Int32) ≤ nI i from nI_ge (a := i) (b := 12) (by omega) (by decide)), has11, sb']
    have key : ∀ q7 : Nat, q7 = (if srF th lk i then 2 ^ i else 0) → lt (nI (bs (srF th lk) i) ||| nI q7) (fun x8 => lt (nI i + 1) (fun x9 => LX11_sources_4 lk th ko m x8 x9)) = ko (nI (srN th lk)) 12 := by
      intro q7 hq
      rw [lt_eq, lt_eq, or_nI, nI_1, hq]
      exact ih m (i + 1) (by omega) (by omega)
    by_cases hi : hb th i = true
    · rw [if_pos hi, if_neg (by decide), ri_nI (by omega) (by decide), shl1 i (by omega)]
      by_cases hl : lk i ≤ 0
      · rw [if_pos hl]
        exact key 0 (by simp [srF, hl])
      · rw [if_neg hl]
        exact key _ (by simp [srF, hi, hl])
    · rw [if_neg hi, if_pos rfl]
      exact key 0 (by simp [srF, hi])
theorem src11 (th : Int32) (lk : Nat → Int32) : f_X11_sources lk th = some (nI (srN th lk)) := by
  unfold f_X11_sources
  exact src_loop _ 12 FU 0 (by omega) (by rw [fu_s]; omega)
theorem ren_loop1 (ko : Int32 → (Nat → Int32) → Option (Int32 × (Nat → Int32))) : ∀ (d n i : Nat) (f : Nat → Int32), i + d = 12 → d < n → (∀ x, x < i → f x = 0) → ∃ f' : Nat → Int32, LX9_renew_7 ko n (nI i) f = ko 12 f' ∧ ∀ x, x < 12 → f' x = 0 := by
  intro d
  induction d with
  | zero =>
    intro n i f h1 h2 hf
    obtain ⟨m, rfl⟩ : ∃ m, n = m + 1 := ⟨n - 1, by omega⟩
    have : i = 12 := by omega
    subst this
    refine ⟨f, ?_, hf⟩
    rw [LX9_renew_7_s, if_pos (by decide)]
    rfl
  | succ d ih =>
    intro n i f h1 h2 hf
    obtain ⟨m, rfl⟩ : ∃ m, n = m + 1 := ⟨n - 1, by omega⟩
    obtain ⟨f', e1, e2⟩ := ih m (i + 1) (upd f i 0) (by omega) (by omega) (fun x hx => by
      by_cases h : x = i
      · subst h; rw [pk_us]
      · rw [pk_un h]; exact hf x (by omega))
    refine ⟨f', ?_, e2⟩
    rw [LX9_renew_7_s, if_neg (show ¬ (12 : Int32) ≤ nI i from nI_ge (a := i) (b := 12) (by omega) (by decide)), wi_nI (by omega) (by decide), lt_eq, nI_1, e1]
theorem ren_loop2 {th : Int32} {md td lk : Nat → Int32} (hT : Tree th md) (hd : ∀ v, v < 12 → hb th v = true → td v = md v) (ko : Int32 → (Nat → Int32) → Int32 → Option (Int32 × (Nat → Int32))) : ∀ (d n i : Nat) (f : Nat → Int32), i + d = 12 → d < n → (∀ x, x < 12 → f x = nI (bs (abF th md x) i)) → ∃ f' : Nat → Int32, LX9_renew_28 td lk th ko n (nI i) f (nI (bs (srF th lk) i)) = ko 12 f' (nI (srN th lk)) ∧ ∀ x, x < 12 → f' x = nI (ab th md x) := by
  intro d
  induction d with
  | zero =>
    intro n i f h1 h2 hf
    obtain ⟨m, rfl⟩ : ∃ m, n = m + 1 := ⟨n - 1, by omega⟩
    have : i = 12 := by omega
    subst this
    refine ⟨f, ?_, hf⟩
    rw [LX9_renew_28_s, if_pos (by decide)]
    rfl
  | succ d ih =>
    intro n i f h1 h2 hf
    obtain ⟨m, rfl⟩ : ∃ m, n = m + 1 := ⟨n - 1, by omega⟩
    rw [LX9_renew_28_s, if_neg (show ¬ (12 : Int32) ≤ nI i from nI_ge (a := i) (b := 12) (by omega) (by decide)), has10, sb']
    by_cases hi : hb th i = true
    · rw [if_pos hi, if_neg (by decide)]
      obtain ⟨f1, e1, e2⟩ := stand10 hT hd (by omega) hi f
      rw [e1, sb', ri_nI (by omega) (by decide), ib, lt_eq, sb', lt_eq, nI_1, shl1 i (by omega)]
      have e3 : (nI (bs (srF th lk) i) ||| if lk i ≤ 0 then 0 else nI (2 ^ i)) = nI (bs (srF th lk) (i + 1)) := by
        rw [bs]
        by_cases hl : lk i ≤ 0
        · rw [if_pos hl, show (0 : Int32) = nI 0 from rfl, or_nI]
          simp [srF, hl]
        · rw [if_neg hl, or_nI]
          simp [srF, hl, hi]
      rw [e3]
      refine ih m (i + 1) f1 (by omega) (by omega) (fun x hx => ?_)
      rw [e2 x hx, hf x hx, bs]
      by_cases hw : (wy md i).testBit x = true
      · rw [if_pos hw, or_nI]
        simp [abF, hi, hw]
      · rw [if_neg hw]
        simp [abF, hw]
    · rw [if_neg hi, if_pos rfl, sb', lt_eq, nI_1]
      have e3 : bs (srF th lk) (i + 1) = bs (srF th lk) i := by
        rw [bs]
        simp [srF, hi]
      rw [← e3]
      refine ih m (i + 1) f (by omega) (by omega) (fun x hx => ?_)
      rw [hf x hx, bs]
      simp [abF, hi]
/-- the class's sets behind a renewal -/
theorem ren10 {th : Int32} {md td lk : Nat → Int32} (hT : Tree th md) (hd : ∀ v, v < 12 → hb th v = true → td v = md v) (src0 : Int32) (ov0 : Nat → Int32) : ∃ ov : Nat → Int32, f_X9_renew td lk th src0 ov0 = some (nI (srN th lk), ov) ∧ ∀ x, x < 12 → ov x = nI (ab th md x) := by
  unfold f_X9_renew
  obtain ⟨f1, e1, e2⟩ := ren_loop1 (fun x3 f4 => LX9_renew_28 td lk th (fun x12 f13 x14 => some (x14, f13)) FU 0 f4 0) 12 FU 0 ov0 (by omega) (by rw [fu_s]; omega) (fun x hx => by omega)
  obtain ⟨f2, e3, e4⟩ := ren_loop2 (lk := lk) hT hd (fun x12 f13 x14 => some (x14, f13)) 12 FU 0 f1 (by omega) (by rw [fu_s]; omega) (fun x hx => by rw [e2 x hx]; rfl)
  refine ⟨f2, ?_, e4⟩
  rw [nI_0] at e1
  rw [e1]
  exact e3
/-! walk -/
def wkS (wk : Nat → Int32) (s : Nat) : Nat → Int32
  | 0 => 0
  | n + 1 => wkS wk s n + (if s.testBit (n + 1) then wk (n + 1) else 0)
theorem walk_loop {wk : Nat → Int32} {s : Nat} (hs : s < 4096) (ko : Int32 → Int32 → Option Int32) : ∀ (d n i : Nat), i + d = 11 → d < n → LX11_walkOf_18 wk (nI s) ko n (wkS wk s i) (nI (i + 1)) = ko (wkS wk s 11) 12 := by
  intro d
  induction d with
  | zero =>
    intro n i h1 h2
    obtain ⟨m, rfl⟩ : ∃ m, n = m + 1 := ⟨n - 1, by omega⟩
    have : i = 11 := by omega
    subst this
    rw [LX11_walkOf_18_s, if_pos (by decide)]
    rfl
  | succ d ih =>
    intro n i h1 h2
    obtain ⟨m, rfl⟩ : ∃ m, n = m + 1 := ⟨n - 1, by omega⟩
    rw [LX11_walkOf_18_s, if_neg (show ¬ (12 : Int32) ≤ nI (i + 1) from nI_ge (a := (i + 1)) (b := 12) (by omega) (by decide)), has11, sb', hb_nI (by omega) (by omega)]
    have key : ∀ q : Int32, q = (if s.testBit (i + 1) then wk (i + 1) else 0) → lt (wkS wk s i + q) (fun x11 => lt (nI (i + 1) + 1) (fun x12 => LX11_walkOf_18 wk (nI s) ko m x11 x12)) = ko (wkS wk s 11) 12 := by
      intro q hq
      rw [lt_eq, lt_eq, nI_1, hq]
      exact ih m (i + 1) (by omega) (by omega)
    cases hb' : s.testBit (i + 1) with
    | true =>
      simp only [if_true]
      rw [if_neg (by decide), ri_nI (by omega) (by decide), sb']
      exact key _ (by simp [hb'])
    | false =>
      simp only [Bool.false_eq_true, if_false, if_true, sb']
      exact key 0 (by simp [hb'])
/-- minutes to walk between two nodes -/
def wk2 (md wk : Nat → Int32) (a b : Nat) : Int32 := wkS wk (wy md a ^^^ wy md b) 11
theorem walkOf11 {th : Int32} {md wk : Nat → Int32} (hT : Tree th md) {a b : Nat} (ha : a < 12) (hb' : b < 12) (ta : hb th a = true) (tb : hb th b = true) : f_X11_walkOf (nI a) (nI b) md wk = some (wk2 md wk a b) := by
  unfold f_X11_walkOf
  rw [wayOf11 hT ha ta, sb', wayOf11 hT hb' tb, sb', lt_eq, xor_nI]
  have h1 := (wy_ind hT a ha ta).2.2
  have h2 := (wy_ind hT b hb' tb).2.2
  have := walk_loop (wk := wk) (s := wy md a ^^^ wy md b) (Nat.xor_lt_two_pow h1 h2) (fun x6 _ => some x6) 11 FU 0 (by omega) (by rw [fu_s]; omega)
  exact this
theorem wkS_0 (wk : Nat → Int32) : ∀ n, wkS wk 0 n = 0
  | 0 => rfl
  | n + 1 => by rw [wkS, wkS_0 wk n]; simp
/-- one bit more -/
theorem wkS_or (wk : Nat → Int32) (s c : Nat) (hc1 : 1 ≤ c) (hs : s.testBit c = false) : ∀ n, wkS wk (2 ^ c ^^^ s) n = wkS wk s n + (if c ≤ n then wk c else 0)
  | 0 => by rw [wkS, wkS, if_neg (by omega)]; rfl
  | n + 1 => by
    rw [wkS, wkS, wkS_or wk s c hc1 hs n, Nat.testBit_xor, Nat.testBit_two_pow]
    by_cases h : c = n + 1
    · subst h
      rw [hs, if_neg (by omega), if_pos (Nat.le_refl _)]
      simp
    · have h1 : decide (c = n + 1) = false := by simp [h]
      rw [h1, Bool.false_xor]
      by_cases h2 : c ≤ n
      · rw [if_pos h2, if_pos (show c ≤ n + 1 by omega)]
        rw [Int32.add_assoc, Int32.add_assoc, Int32.add_comm (wk c)]
      · rw [if_neg h2, if_neg (show ¬ c ≤ n + 1 by omega)]
        simp
theorem wk2_up {th : Int32} {md wk : Nat → Int32} (hT : Tree th md) {a b : Nat} (ha : a < 12) (hb' : b < 12) (ta : hb th a = true) (tb : hb th b = true) (hab : b < a) : wk2 md wk a b = wk2 md wk (dn md a) b + wk a := by
  obtain ⟨q1, q2, q3⟩ := hT.step (by omega) ha ta
  unfold wk2
  have e : wy md a = 2 ^ a ^^^ wy md (dn md a) := by
    rw [wy_s hT (by omega) ha ta]
    apply Nat.eq_of_testBit_eq
    intro i
    rw [Nat.testBit_or, Nat.testBit_xor, Nat.testBit_two_pow]
    by_cases h : a = i
    · subst h
      have : (wy md (dn md a)).testBit a = false := by
        cases hz : (wy md (dn md a)).testBit a with
        | false => rfl
        | true => have := ((wy_ind hT _ (by omega) q3).1 a hz).1; omega
      rw [this]; simp
    · simp [h]
  rw [e, Nat.xor_assoc, wkS_or wk _ a (by omega) ?_ 11, if_pos (by omega)]
  rw [Nat.testBit_xor]
  have h1 : (wy md (dn md a)).testBit a = false := by
    cases hz : (wy md (dn md a)).testBit a with
    | false => rfl
    | true => have := ((wy_ind hT _ (by omega) q3).1 a hz).1; omega
  have h2 : (wy md b).testBit a = false := by
    cases hz : (wy md b).testBit a with
    | false => rfl
    | true => have := ((wy_ind hT b hb' tb).1 a hz).1; omega
  rw [h1, h2]; rfl
theorem wk2_sym (md wk : Nat → Int32) (a b : Nat) : wk2 md wk a b = wk2 md wk b a := by unfold wk2; rw [Nat.xor_comm]
theorem wk2_self (md wk : Nat → Int32) (a : Nat) : wk2 md wk a a = 0 := by unfold wk2; rw [Nat.xor_self]; exact wkS_0 wk 11
theorem mb_loop {th : Int32} {md td wk : Nat → Int32} (hT : Tree th md) (hd : ∀ v, v < 12 → hb th v = true → td v = md v) : ∀ (k a b : Nat), a + b ≤ k → a < 12 → b < 12 → hb th a = true → hb th b = true → ∀ (n j : Nat) (acc : Int32), a + b < n → j + a + b < 24 → LX9_minutesBetween_11 td wk (fun x _ _ _ => some x) n acc (nI a) (nI b) (nI j) = some (acc + wk2 md wk a b) := by
  intro k
  induction k with
  | zero =>
    intro a b hk ha hb' ta tb n j acc hn hj
    obtain ⟨m, rfl⟩ : ∃ m, n = m + 1 := ⟨n - 1, by omega⟩
    have h1 : a = 0 := by omega
    have h2 : b = 0 := by omega
    subst h1; subst h2
    rw [LX9_minutesBetween_11_s, if_neg (show ¬ (24 : Int32) ≤ nI j from nI_ge (a := j) (b := 24) (by omega) (by decide)), if_pos rfl, wk2_self]
    simp
  | succ k ih =>
    intro a b hk ha hb' ta tb n j acc hn hj
    obtain ⟨m, rfl⟩ : ∃ m, n = m + 1 := ⟨n - 1, by omega⟩
    rw [LX9_minutesBetween_11_s, if_neg (show ¬ (24 : Int32) ≤ nI j from nI_ge (a := j) (b := 24) (by omega) (by decide))]
    by_cases hab : a = b
    · subst hab
      rw [if_pos rfl, wk2_self]
      simp
    · rw [if_neg (fun q => hab ((nI_eq (by omega) (by omega)).mp q))]
      by_cases hl : a ≤ b
      · obtain ⟨q1, q2, q3⟩ := hT.step (v := b) (by omega) hb' tb
        rw [if_pos (nI_le hl (by omega)), ri_nI hb' (by decide), lt_eq, ri_nI hb' (by decide), sb', lt_eq, nI_1, hd b hb' tb, q2]
        rw [ih a (dn md b) (by omega) ha (by omega) ta q3 m (j + 1) _ (by omega) (by omega), wk2_sym md wk a b, wk2_up hT hb' ha tb ta (by omega), wk2_sym md wk (dn md b) a, Int32.add_assoc, Int32.add_comm (wk b)]
      · obtain ⟨q1, q2, q3⟩ := hT.step (v := a) (by omega) ha ta
        rw [if_neg (nI_ge (by omega) (by omega)), ri_nI ha (by decide), lt_eq, ri_nI ha (by decide), sb', lt_eq, nI_1, hd a ha ta, q2]
        rw [ih (dn md a) b (by omega) (by omega) hb' q3 tb m (j + 1) _ (by omega) (by omega), wk2_up hT ha hb' ta tb (by omega), Int32.add_assoc, Int32.add_comm (wk a)]
theorem mb10 {th : Int32} {md td wk : Nat → Int32} (hT : Tree th md) (hd : ∀ v, v < 12 → hb th v = true → td v = md v) {a b : Nat} (ha : a < 12) (hb' : b < 12) (ta : hb th a = true) (tb : hb th b = true) : f_X9_minutesBetween (nI a) (nI b) td wk = some (wk2 md wk a b) := by
  unfold f_X9_minutesBetween
  have := mb_loop (wk := wk) hT hd (a + b) a b (Nat.le_refl _) ha hb' ta tb FU 0 0 (by rw [fu_s]; omega) (by omega)
  rw [Int32.zero_add] at this
  exact this
/-- promise 9 -/
theorem p_walk {th : Int32} {md td wk : Nat → Int32} (hT : Tree th md) (hd : ∀ v, v < 12 → hb th v = true → td v = md v) (p0 p1 : Int32) : ∃ r, f_X10_walk p0 p1 td wk th = some r ∧ f_X11_walk p0 p1 md wk th = some r := by
  unfold f_X10_walk f_X11_walk
  simp only [there10, node11, sb']
  by_cases h : isN th p0 = true
  · obtain ⟨v, hv, rfl, hbv⟩ := isN_of h
    simp only [if_pos h, if_neg one_ne]
    by_cases h2 : isN th p1 = true
    · obtain ⟨u, hu, rfl, hbu⟩ := isN_of h2
      simp only [if_pos h2, if_neg one_ne]
      rw [mb10 hT hd hv hu hbv hbu, walkOf11 hT hv hu hbv hbu]
      exact ⟨_, rfl, rfl⟩
    · simp only [if_neg h2]
      exact ⟨_, rfl, rfl⟩
  · simp only [if_neg h]
    exact ⟨_, rfl, rfl⟩
