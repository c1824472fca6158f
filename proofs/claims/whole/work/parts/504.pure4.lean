/-! flow -/
def smS (f : Nat → Int32) (s : Nat) : Nat → Int32
  | 0 => 0
  | n + 1 => smS f s n + (if s.testBit n then f n else 0)
theorem infl_loop {fl : Nat → Int32} {s : Nat} (hs : s < 4096) (ko : Int32 → Int32 → Option Int32) : ∀ (d n i : Nat), i + d = 12 → d < n → LX8_inflowOf_4 (nI s) fl ko n (smS fl s i) (nI i) = ko (smS fl s 12) 12 := by
  intro d
  induction d with
  | zero =>
    intro n i h1 h2
    obtain ⟨m, rfl⟩ : ∃ m, n = m + 1 := ⟨n - 1, by omega⟩
    have : i = 12 := by omega
    subst this
    rw [LX8_inflowOf_4_s, if_pos (by decide)]
    rfl
  | succ d ih =>
    intro n i h1 h2
    obtain ⟨m, rfl⟩ : ∃ m, n = m + 1 := ⟨n - 1, by omega⟩
    rw [LX8_inflowOf_4_s, if_neg (show ¬ (12 : Int32) ≤ nI i from nI_ge (a := i) (b := 12) (by omega) (by decide)), has10, sb', hb_nI (by omega) (by omega)]
    have key : ∀ q : Int32, q = (if s.testBit i then fl i else 0) → lt (smS fl s i + q) (fun x8 => lt (nI i + 1) (fun x9 => LX8_inflowOf_4 (nI s) fl ko m x8 x9)) = ko (smS fl s 12) 12 := by
      intro q hq
      rw [lt_eq, lt_eq, nI_1, hq]
      exact ih m (i + 1) (by omega) (by omega)
    cases hb' : s.testBit i with
    | true =>
      simp only [if_true]
      rw [if_neg (by decide), ri_nI (by omega) (by decide), sb']
      exact key _ (by simp [hb'])
    | false =>
      simp only [Bool.false_eq_true, if_false, if_true, sb']
      exact key 0 (by simp [hb'])
theorem flow_loop {fl : Nat → Int32} {s : Nat} (hs : s < 4096) (ko : Int32 → Int32 → Option Int32) : ∀ (d n i : Nat), i + d = 12 → d < n → LX11_flowOf_12 fl (nI s) ko n (smS fl s i) (nI i) = ko (smS fl s 12) 12 := by
  intro d
  induction d with
  | zero =>
    intro n i h1 h2
    obtain ⟨m, rfl⟩ : ∃ m, n = m + 1 := ⟨n - 1, by omega⟩
    have : i = 12 := by omega
    subst this
    rw [LX11_flowOf_12_s, if_pos (by decide)]
    rfl
  | succ d ih =>
    intro n i h1 h2
    obtain ⟨m, rfl⟩ : ∃ m, n = m + 1 := ⟨n - 1, by omega⟩
    rw [LX11_flowOf_12_s, if_neg (show ¬ (12 : Int32) ≤ nI i from nI_ge (a := i) (b := 12) (by omega) (by decide)), has11, sb', hb_nI (by omega) (by omega)]
    have key : ∀ q : Int32, q = (if s.testBit i then fl i else 0) → lt (smS fl s i + q) (fun x8 => lt (nI i + 1) (fun x9 => LX11_flowOf_12 fl (nI s) ko m x8 x9)) = ko (smS fl s 12) 12 := by
      intro q hq
      rw [lt_eq, lt_eq, nI_1, hq]
      exact ih m (i + 1) (by omega) (by omega)
    cases hb' : s.testBit i with
    | true =>
      simp only [if_true]
      rw [if_neg (by decide), ri_nI (by omega) (by decide), sb']
      exact key _ (by simp [hb'])
    | false =>
      simp only [Bool.false_eq_true, if_false, if_true, sb']
      exact key 0 (by simp [hb'])
theorem ab_lt (th : Int32) (md : Nat → Int32) (x : Nat) : ab th md x < 4096 := bs_lt _ 12
/-- the flow at a node in an hour -/
def flS (th : Int32) (md fl rn : Nat → Int32) (v h : Nat) : Int32 := if 1 ≤ (smS fl (ab th md v) 12 * (10 + rn h)) / 10 then (smS fl (ab th md v) 12 * (10 + rn h)) / 10 else 1
theorem flS_ne (th : Int32) (md fl rn : Nat → Int32) (v h : Nat) : ¬ flS th md fl rn v h = 0 := by
  unfold flS
  split
  · rename_i q
    intro z
    rw [z] at q
    exact absurd q (by decide)
  · decide
theorem infl10 (fl : Nat → Int32) {s : Nat} (hs : s < 4096) : f_X8_inflowOf (nI s) fl = some (smS fl s 12) := by
  unfold f_X8_inflowOf
  exact infl_loop hs _ 12 FU 0 (by omega) (by rw [fu_s]; omega)
theorem flowOf11 {th : Int32} {md : Nat → Int32} (hT : Tree th md) (fl rn : Nat → Int32) {v h : Nat} (hv : v < 12) (hh : h < 24) : f_X11_flowOf (nI v) (nI h) md fl rn th = some (flS th md fl rn v h) := by
  unfold f_X11_flowOf
  rw [aboveOf11 hT hv, sb']
  have := flow_loop (fl := fl) (ab_lt th md v) (fun x4 x5 => ri rn 24 (nI h) fun x14 => nz (10) <| lt (((x4 * (10 + x14)) / 10) : Int32) fun x17 => if 1 ≤ x17 then some (x17) else some (1)) 12 FU 0 (by omega) (by rw [fu_s]; omega)
  refine Eq.trans this ?_
  rw [ri_nI hh (by decide), nz_ok (by decide), lt_eq]
  unfold flS
  split <;> rfl
theorem flowAt10 {th : Int32} {md wg : Nat → Int32} (fl rn : Nat → Int32) (hg : ∀ v, v < 12 → wg v = smS fl (ab th md v) 12) {v h : Nat} (hv : v < 12) (hh : h < 24) : f_X8_flowAt (nI v) (nI h) rn wg = some (flS th md fl rn v h) := by
  unfold f_X8_flowAt
  rw [ri_nI hv (by decide), ri_nI hh (by decide), nz_ok (by decide), lt_eq, hg v hv]
  unfold flS
  split <;> rfl
/-- promise 10 -/
theorem p_flow {th : Int32} {md wg : Nat → Int32} (hT : Tree th md) (fl rn : Nat → Int32) (hg : ∀ v, v < 12 → wg v = smS fl (ab th md v) 12) (p0 p1 : Int32) : ∃ r, f_X10_flow p0 p1 rn th wg = some r ∧ f_X11_flow p0 p1 md fl rn th = some r := by
  unfold f_X10_flow f_X11_flow
  simp only [there10, node11, sb']
  by_cases h : isN th p0 = true
  · obtain ⟨v, hv, rfl, hbv⟩ := isN_of h
    simp only [if_pos h, if_neg one_ne]
    rw [inI p1 0 23 (B := 0) (C := 23) rfl rfl, sb']
    by_cases h1 : p1 < 0
    · have : ¬ (0 ≤ p1 ∧ p1 ≤ 23) := fun q => Int32.not_le.mpr h1 q.1
      rw [if_pos h1, if_neg this]
      exact ⟨_, rfl, rfl⟩
    · rw [if_neg h1]
      obtain ⟨j, hj, rfl⟩ := nI_of h1
      by_cases h2 : j < 24
      · have a1 : nI j < 24 := nI_lt (a := j) (b := 24) h2 (by decide)
        have a2 : 0 ≤ nI j ∧ nI j ≤ 23 := ⟨nI_pos' hj, nI_le (a := j) (b := 23) (by omega) (by decide)⟩
        rw [if_pos a1, if_pos a2, if_neg (by decide), flowAt10 fl rn hg hv h2, flowOf11 hT fl rn hv h2]
        exact ⟨_, rfl, rfl⟩
      · have a1 : ¬ nI j < 24 := fun q => h2 ((nI_ltI (b := 24) hj (by decide)).mp q)
        have a2 : ¬ (0 ≤ nI j ∧ nI j ≤ 23) := fun q => by
          have := (nI_leI (a := j) (b := 23) hj (by decide)).mp q.2
          omega
        rw [if_neg a1, if_neg a2]
        exact ⟨_, rfl, rfl⟩
  · simp only [if_neg h]
    exact ⟨_, rfl, rfl⟩
