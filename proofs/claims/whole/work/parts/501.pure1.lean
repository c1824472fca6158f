/-! nodes, cups, writing -/
def isN (t p : Int32) : Bool := decide (¬ p < 0) && decide (p < 12) && hb t p.toNatClampNeg
theorem isN_of {t p : Int32} (h : isN t p = true) : ∃ v : Nat, v < 12 ∧ p = nI v ∧ hb t v = true := by
  simp only [isN, Bool.and_eq_true, decide_eq_true_eq] at h
  obtain ⟨⟨h1, h2⟩, h3⟩ := h
  obtain ⟨j, hj, rfl⟩ := nI_of h1
  have : j < 12 := (nI_ltI hj (by decide)).mp h2
  refine ⟨j, this, rfl, ?_⟩
  rw [nI_clamp hj] at h3
  exact h3
theorem isN_nI {t : Int32} {v : Nat} (hv : v < 12) : isN t (nI v) = hb t v := by
  simp only [isN]
  rw [nI_clamp (by omega)]
  have h1 : ¬ nI v < 0 := nI_pos (by omega)
  have h2 : nI v < 12 := nI_lt (a := v) (b := 12) hv (by decide)
  simp [h1, h2]
theorem there10 (p t : Int32) : f_X10_isThere p t = some (if isN t p then 1 else 0) := by
  unfold f_X10_isThere
  by_cases h1 : p < 0
  · rw [if_pos h1]; simp [isN, h1]
  · rw [if_neg h1]
    by_cases h2 : 12 ≤ p
    · rw [if_pos h2]
      have : ¬ p < 12 := Int32.not_lt.mpr h2
      simp [isN, this]
    · rw [if_neg h2]
      have h3 : p < 12 := Int32.not_le.mp h2
      obtain ⟨j, hj, rfl⟩ := nI_of h1
      rw [has10, sb']
      have e : isN t (nI j) = hb t j := isN_nI ((nI_ltI hj (by decide)).mp h3)
      rw [e]
      cases hb t j <;> rfl
theorem wide_le (a b : Int32) : a.toInt64 ≤ b.toInt64 ↔ a ≤ b := by
  rw [Int64.le_iff_toInt_le, Int32.le_iff_toInt_le, Int32.toInt_toInt64, Int32.toInt_toInt64]
theorem inI (a b c : Int32) {B C : Int64} (hB : B = b.toInt64) (hC : C = c.toInt64) : f_X11_in (Int32.toInt64 a) B C = some (if b ≤ a ∧ a ≤ c then 1 else 0) := by
  rw [in11, hB, hC]
  simp only [wide_le]
theorem node11 (p t : Int32) : f_X11_isNode p t = some (if isN t p then 1 else 0) := by
  unfold f_X11_isNode
  rw [inI p 0 11 (B := 0) (C := 11) rfl rfl, sb']
  by_cases h1 : p < 0
  · have : ¬ (0 ≤ p ∧ p ≤ 11) := fun q => Int32.not_le.mpr h1 q.1
    rw [if_neg this]
    simp [isN, h1]
  · obtain ⟨j, hj, rfl⟩ := nI_of h1
    by_cases h2 : j < 12
    · have : (0 ≤ nI j ∧ nI j ≤ 11) := ⟨nI_pos' hj, nI_le (a := j) (b := 11) (by omega) (by decide)⟩
      rw [if_pos this, isN_nI h2, if_neg (by decide), has11, sb']
      cases hb t j <;> rfl
    · have : ¬ (0 ≤ nI j ∧ nI j ≤ 11) := fun q => by
        have := (nI_leI (a := j) (b := 11) hj (by decide)).mp q.2
        omega
      rw [if_neg this]
      have h3 : ¬ nI j < 12 := fun q => h2 ((nI_ltI hj (by decide)).mp q)
      simp [isN, h3]
theorem cup10 (p : Int32) : f_X10_isCup p = some (if 0 ≤ p ∧ p ≤ 3 then 1 else 0) := by
  unfold f_X10_isCup
  by_cases h1 : p < 0
  · have : ¬ (0 ≤ p ∧ p ≤ 3) := fun q => Int32.not_le.mpr h1 q.1
    rw [if_pos h1, if_neg this]
  · rw [if_neg h1]
    obtain ⟨j, hj, rfl⟩ := nI_of h1
    by_cases h2 : 4 ≤ nI j
    · have : ¬ (0 ≤ nI j ∧ nI j ≤ 3) := fun q => by
        have h3 := (nI_leI (a := j) (b := 3) hj (by decide)).mp q.2
        have h4 := (nI_leI (a := 4) (b := j) (by decide) hj).mp h2
        omega
      rw [if_pos h2, if_neg this]
    · have : 0 ≤ nI j ∧ nI j ≤ 3 := ⟨nI_pos' hj, nI_le (a := j) (b := 3) (by
        have h4 : ¬ 4 ≤ j := fun q => h2 ((nI_leI (a := 4) (b := j) (by decide) hj).mpr q)
        omega) (by decide)⟩
      rw [if_neg h2, if_pos this]
theorem cup11 (p : Int32) : f_X11_isCup p = some (if 0 ≤ p ∧ p ≤ 3 then 1 else 0) := by
  unfold f_X11_isCup
  rw [inI p 0 3 (B := 0) (C := 3) rfl rfl, sb']
theorem cup_of {p : Int32} (h : 0 ≤ p ∧ p ≤ 3) : ∃ k : Nat, k < 4 ∧ p = nI k := by
  obtain ⟨j, hj, rfl⟩ := nI_of (Int32.not_lt.mpr h.1)
  exact ⟨j, by have := (nI_leI (a := j) (b := 3) hj (by decide)).mp h.2; omega, rfl⟩
/-- promise 7 -/
theorem p_cup (p0 p1 : Int32) (te fy fn : Nat → Int32) : ∃ r, f_X10_cup p0 p1 te fy fn = some r ∧ f_X11_cup p0 p1 te fy fn = some r := by
  unfold f_X10_cup f_X11_cup
  simp only [cup10, cup11, sb']
  by_cases h : 0 ≤ p0 ∧ p0 ≤ 3
  · simp only [if_pos h, if_neg one_ne]
    obtain ⟨k, hk, rfl⟩ := cup_of h
    simp only [ri_nI hk (by decide)]
    exact two rfl (by (repeat' split) <;> exact ⟨_, rfl⟩)
  · simp only [if_neg h]
    exact ⟨_, rfl, rfl⟩
/-- promise 6 -/
theorem p_of (p0 p1 th : Int32) (td md mi wk go fl lk st fr to : Nat → Int32) (hd : ∀ v, v < 12 → hb th v = true → td v = md v) : ∃ r, f_X10_of p0 p1 td mi wk go fl lk st fr to th = some r ∧ f_X11_of p0 p1 md mi wk go fl lk st fr to th = some r := by
  unfold f_X10_of f_X11_of
  simp only [there10, node11, sb']
  by_cases h : isN th p0 = true
  · obtain ⟨v, hv, rfl, hbv⟩ := isN_of h
    simp only [if_pos h, if_neg one_ne]
    simp only [ri_nI hv (by decide), hd v hv hbv]
    exact two rfl (by (repeat' split) <;> exact ⟨_, rfl⟩)
  · simp only [if_neg h]
    exact ⟨_, rfl, rfl⟩
/-- promise 2 -/
theorem w_loop (p0 : Int64) (k : Nat) (hk : k ≤ 8) {R1 R2 : Type} (ko1 : Int32 → (Nat → Int32) → Int32 → Option (Int32 × Int32 × (Nat → Int32))) (ko2 : Int32 → Int32 → (Nat → Int32) → Option (Int32 × (Nat → Int32) × Int32)) : ∀ (d n i len : Nat) (tx : Nat → Int32), i + d = k → d < n → len + d ≤ 200 → ∃ tx' : Nat → Int32, LX5_append_3 p0 (nI k) ko1 n (nI i) tx (nI len) = ko1 (nI k) tx' (nI (len + d)) ∧ LX11_write_33 p0 (nI k) ko2 n (nI i) (nI len) tx = ko2 (nI k) (nI (len + d)) tx' := by
  intro d
  induction d with
  | zero =>
    intro n i len tx h1 h2 h3
    obtain ⟨m, rfl⟩ : ∃ m, n = m + 1 := ⟨n - 1, by omega⟩
    have hi : i = k := by omega
    subst hi
    refine ⟨tx, ?_, ?_⟩
    · rw [LX5_append_3_s, if_pos (nI_le (Nat.le_refl _) (by omega))]; rfl
    · rw [LX11_write_33_s, if_pos (nI_le (Nat.le_refl _) (by omega))]; rfl
  | succ d ih =>
    intro n i len tx h1 h2 h3
    obtain ⟨m, rfl⟩ : ∃ m, n = m + 1 := ⟨n - 1, by omega⟩
    obtain ⟨tx', e1, e2⟩ := ih m (i + 1) (len + 1) (upd tx len (Int64.toInt32 ((p0 >>> (Int32.toInt64 (8 * nI i) &&& 63)) &&& (255 : Int64)))) (by omega) (by omega) (by omega)
    refine ⟨tx', ?_, ?_⟩
    · rw [LX5_append_3_s, if_neg (nI_ge (by omega) (by omega)), if_neg (show ¬ (200 : Int32) ≤ nI len from nI_ge (a := len) (b := 200) (by omega) (by decide)), wi_nI (by omega) (by decide), lt_eq, lt_eq, nI_1, nI_1, e1]
      congr 2; omega
    · rw [LX11_write_33_s, if_neg (nI_ge (by omega) (by omega)), wi_nI (by omega) (by decide), lt_eq, lt_eq, nI_1, nI_1, e2]
      congr 2; omega
theorem p_write (p0 : Int64) (p1 : Int32) (len : Nat) (hl : len ≤ 200) (tx : Nat → Int32) : ∃ (r : Int32) (len' : Nat) (tx' : Nat → Int32), len' ≤ 200 ∧ f_X10_write p0 p1 (nI len) tx = some (r, nI len', tx') ∧ f_X11_write p0 p1 tx (nI len) = some (r, tx', nI len') := by
  unfold f_X10_write f_X11_write
  rw [inI p1 1 8 (B := 1) (C := 8) rfl rfl, sb']
  by_cases h1 : p1 < 1
  · have : ¬ (1 ≤ p1 ∧ p1 ≤ 8) := fun q => Int32.not_le.mpr h1 q.1
    rw [if_pos h1, if_neg this]
    exact ⟨_, len, tx, hl, rfl, rfl⟩
  · have h1' : (1 : Int32) ≤ p1 := Int32.not_lt.mp h1
    rw [if_neg h1]
    by_cases h2 : p1 ≤ 8
    · have h12 : 1 ≤ p1 ∧ p1 ≤ 8 := ⟨h1', h2⟩
      simp only [if_pos h2, if_pos h12, if_neg one_ne]
      obtain ⟨k, hk, rfl⟩ := nI_of (x := p1) (fun q => h1 (Int32.lt_of_lt_of_le q (by decide)))
      have hk1 : 1 ≤ k := (nI_leI (a := 1) (by decide) hk).mp h1'
      have hk8 : k ≤ 8 := (nI_leI (b := 8) hk (by decide)).mp h2
      rw [nI_add]
      by_cases h3 : nI (len + k) ≤ 200
      · have h3' : len + k ≤ 200 := (nI_leI (b := 200) (by omega) (by decide)).mp h3
        simp only [if_pos h3]
        obtain ⟨tx', e1, e2⟩ := w_loop (R1 := Unit) (R2 := Unit) p0 k hk8 (fun x4 f5 x6 => some (x6, x6, f5)) (fun x7 x8 f9 => some (x8, f9, x8)) k FU 0 len tx (by omega) (by rw [fu_s]; omega) h3'
        unfold f_X5_append
        rw [nI_0] at e1 e2
        rw [e1, e2]
        exact ⟨_, len + k, tx', h3', rfl, rfl⟩
      · simp only [if_neg h3]
        exact ⟨_, len, tx, hl, rfl, rfl⟩
    · have : ¬ (1 ≤ p1 ∧ p1 ≤ 8) := fun q => h2 q.2
      rw [if_neg h2, if_neg this]
      exact ⟨_, len, tx, hl, rfl, rfl⟩
