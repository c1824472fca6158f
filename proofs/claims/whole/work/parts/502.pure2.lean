/-! sets by bits, the tree of pipes, above -/
theorem shl1 : ∀ p, p < 12 → (1 : Int32) <<< (nI p &&& 31) = nI (2 ^ p) := by decide
theorem or_nI (a b : Nat) : nI a ||| nI b = nI (a ||| b) := by
  apply Int32.toBitVec_inj.mp
  show (BitVec.ofNat 32 a) ||| (BitVec.ofNat 32 b) = BitVec.ofNat 32 (a ||| b)
  rw [BitVec.ofNat_or]
theorem and_nI (a b : Nat) : nI a &&& nI b = nI (a &&& b) := by
  apply Int32.toBitVec_inj.mp
  show (BitVec.ofNat 32 a) &&& (BitVec.ofNat 32 b) = BitVec.ofNat 32 (a &&& b)
  rw [BitVec.ofNat_and]
theorem xor_nI (a b : Nat) : nI a ^^^ nI b = nI (a ^^^ b) := by
  apply Int32.toBitVec_inj.mp
  show (BitVec.ofNat 32 a) ^^^ (BitVec.ofNat 32 b) = BitVec.ofNat 32 (a ^^^ b)
  rw [BitVec.ofNat_xor]
theorem shrS : ∀ n, n < 32 → ((nI n &&& 31).toBitVec.smod 32).toNat = n := by decide
theorem hb_nI {m v : Nat} (hm : m < 2 ^ 31) (hv : v < 31) : hb (nI m) v = m.testBit v := by
  unfold hb
  rw [pk_shrN hm (nI v &&& 31) v (shrS v (by omega))]
  have h1 : (1 : Int32) = nI 1 := rfl
  rw [h1, and_nI, Nat.and_one_is_mod]
  have h2 : m.testBit v = decide ((m / 2 ^ v) % 2 = 1) := by
    rw [Nat.testBit_eq_decide_div_mod_eq]
  rw [h2]
  rcases Nat.mod_two_eq_zero_or_one (m / 2 ^ v) with h | h <;> rw [h] <;> decide
def bs (f : Nat → Bool) : Nat → Nat
  | 0 => 0
  | n + 1 => bs f n ||| (if f n then 2 ^ n else 0)
theorem bs_bit (f : Nat → Bool) : ∀ n x, (bs f n).testBit x = (decide (x < n) && f x)
  | 0, x => by simp [bs]
  | n + 1, x => by
    rw [bs, Nat.testBit_or, bs_bit f n x]
    by_cases hx : x = n
    · subst hx
      cases hf : f x <;> simp [hf]
    · have h1 : decide (x < n + 1) = decide (x < n) := by
        by_cases h : x < n
        · simp [h]; omega
        · simp [h]; omega
      rw [h1]
      cases f n
      · simp
      · simp [Nat.testBit_two_pow, Ne.symm hx]
theorem bs_lt (f : Nat → Bool) : ∀ n, bs f n < 2 ^ n
  | 0 => by simp [bs]
  | n + 1 => by
    rw [bs]
    apply Nat.or_lt_two_pow
    · exact Nat.lt_of_lt_of_le (bs_lt f n) (Nat.pow_le_pow_right (by decide) (by omega))
    · split
      · exact Nat.pow_lt_pow_right (by decide) (by omega)
      · exact Nat.two_pow_pos _
def dn (md : Nat → Int32) (v : Nat) : Nat := (md v).toNatClampNeg
/-- the pipes lie as a tree -/
def Tree (th : Int32) (md : Nat → Int32) : Prop := hb th 0 = true ∧ md 0 = -1 ∧ ∀ v, 1 ≤ v → v < 12 → hb th v = true → ∃ u, u < v ∧ md v = nI u ∧ hb th u = true
theorem Tree.step {th : Int32} {md : Nat → Int32} (h : Tree th md) {v : Nat} (h1 : 1 ≤ v) (h2 : v < 12) (h3 : hb th v = true) : dn md v < v ∧ md v = nI (dn md v) ∧ hb th (dn md v) = true := by
  obtain ⟨u, hu, e, ht⟩ := h.2.2 v h1 h2 h3
  have : dn md v = u := by unfold dn; rw [e, nI_clamp (by omega)]
  rw [this]
  exact ⟨hu, e, ht⟩
/-- the nodes below v on its way -/
def blN (md : Nat → Int32) : Nat → Nat → Nat
  | 0, _ => 0
  | k + 1, v => if v = 0 then 0 else 2 ^ (dn md v) ||| blN md k (dn md v)
def wy (md : Nat → Int32) (v : Nat) : Nat := 2 ^ v ||| blN md 12 v
theorem blN_st {th : Int32} {md : Nat → Int32} (hT : Tree th md) : ∀ (k v : Nat), v < 12 → hb th v = true → v ≤ k → blN md (k + 1) v = blN md k v
  | 0, v, h1, h2, h3 => by
    have : v = 0 := by omega
    subst this
    rfl
  | k + 1, v, h1, h2, h3 => by
    by_cases hv : v = 0
    · subst hv; rfl
    · obtain ⟨a, b, c⟩ := hT.step (by omega) h1 h2
      rw [blN, if_neg hv, blN_st hT k (dn md v) (by omega) c (by omega), blN, if_neg hv]
theorem wy_0 (md : Nat → Int32) : wy md 0 = 1 := by unfold wy blN; rw [if_pos rfl]; rfl
theorem wy_s {th : Int32} {md : Nat → Int32} (hT : Tree th md) {v : Nat} (h1 : 1 ≤ v) (h2 : v < 12) (h3 : hb th v = true) : wy md v = 2 ^ v ||| wy md (dn md v) := by
  obtain ⟨a, b, c⟩ := hT.step h1 h2 h3
  unfold wy
  rw [show blN md 12 v = 2 ^ (dn md v) ||| blN md 11 (dn md v) by rw [blN, if_neg (by omega)], blN_st hT 11 (dn md v) (by omega) c (by omega)]
theorem wy_ind {th : Int32} {md : Nat → Int32} (hT : Tree th md) : ∀ v, v < 12 → hb th v = true → (∀ x, (wy md v).testBit x = true → x ≤ v ∧ hb th x = true) ∧ (wy md v).testBit v = true ∧ wy md v < 2 ^ 12 := by
  intro v
  induction v using Nat.strongRecOn with
  | _ v ih =>
    intro h1 h2
    by_cases hv : v = 0
    · subst hv
      rw [wy_0]
      refine ⟨fun x hx => ?_, by decide, by decide⟩
      have : x = 0 := by
        by_cases h : x = 0
        · exact h
        · rw [show (1 : Nat) = 2 ^ 0 from rfl, Nat.testBit_two_pow] at hx
          simp at hx; omega
      subst this
      exact ⟨Nat.le_refl _, h2⟩
    · obtain ⟨a, b, c⟩ := hT.step (by omega) h1 h2
      obtain ⟨i1, i2, i3⟩ := ih (dn md v) a (by omega) c
      rw [wy_s hT (by omega) h1 h2]
      refine ⟨fun x hx => ?_, ?_, ?_⟩
      · rw [Nat.testBit_or, Nat.testBit_two_pow] at hx
        by_cases h : v = x
        · subst h; exact ⟨Nat.le_refl _, h2⟩
        · simp [h] at hx
          obtain ⟨j1, j2⟩ := i1 x hx
          exact ⟨by omega, j2⟩
      · rw [Nat.testBit_or, Nat.testBit_two_pow]; simp
      · exact Nat.or_lt_two_pow (Nat.pow_lt_pow_right (by decide) h1) i3
theorem way_loop {th : Int32} {md : Nat → Int32} (hT : Tree th md) (ko : Int32 → Int32 → Option Int32) : ∀ (v : Nat), v < 12 → hb th v = true → ∀ (n k a : Nat), v < n → v ≤ k → LX11_wayOf_6 md ko n (nI a) (nI v) = ko (nI (a ||| blN md k v)) 0 := by
  intro v
  induction v using Nat.strongRecOn with
  | _ v ih =>
    intro h1 h2 n k a hn hk
    obtain ⟨m, rfl⟩ : ∃ m, n = m + 1 := ⟨n - 1, by omega⟩
    by_cases hv : v = 0
    · subst hv
      have : blN md k 0 = 0 := by cases k <;> rfl
      rw [LX11_wayOf_6_s, nI_0, if_pos (by decide), this, Nat.or_zero]
    · obtain ⟨q1, q2, q3⟩ := hT.step (by omega) h1 h2
      obtain ⟨k', rfl⟩ : ∃ k', k = k' + 1 := ⟨k - 1, by omega⟩
      rw [LX11_wayOf_6_s, if_neg (nI_nle (by omega) (by omega)), ri_nI h1 (by decide), lt_eq, q2, shl1 _ (by omega), or_nI, ih _ q1 (by omega) q3 m k' _ (by omega) (by omega), blN, if_neg hv, Nat.or_assoc]
theorem wayOf11 {th : Int32} {md : Nat → Int32} (hT : Tree th md) {v : Nat} (h1 : v < 12) (h2 : hb th v = true) : f_X11_wayOf (nI v) md = some (nI (wy md v)) := by
  unfold f_X11_wayOf
  rw [lt_eq, shl1 v h1, way_loop hT _ v h1 h2 FU 12 _ (by rw [fu_s]; omega) (by omega)]
  rfl
/-- above x: the nodes whose way goes through it -/
def abF (th : Int32) (md : Nat → Int32) (x u : Nat) : Bool := hb th u && (wy md u).testBit x
def ab (th : Int32) (md : Nat → Int32) (x : Nat) : Nat := bs (abF th md x) 12
theorem above_loop {th : Int32} {md : Nat → Int32} (hT : Tree th md) {x : Nat} (hx : x < 12) (ko : Int32 → Int32 → Option Int32) : ∀ (d n i : Nat), i + d = 12 → d < n → LX11_aboveOf_4 (nI x) md th ko n (nI (bs (abF th md x) i)) (nI i) = ko (nI (ab th md x)) 12 := by
  intro d
  induction d with
  | zero =>
    intro n i h1 h2
    obtain ⟨m, rfl⟩ : ∃ m, n = m + 1 := ⟨n - 1, by omega⟩
    have : i = 12 := by omega
    subst this
    rw [LX11_aboveOf_4_s, if_pos (by decide)]
    rfl
  | succ d ih =>
    intro n i h1 h2
    obtain ⟨m, rfl⟩ : ∃ m, n = m + 1 := ⟨n - 1, by omega⟩
    rw [LX11_aboveOf_4_s, if_neg (show ¬ (12 : Int32) ≤ nI i from nI_ge (a := i) (b := 12) (by omega) (by decide)), has11, sb']
    have key : ∀ q7 : Nat, q7 = (if abF th md x i then 2 ^ i else 0) → lt (nI (bs (abF th md x) i) ||| nI q7) (fun x8 => lt (nI i + 1) (fun x9 => LX11_aboveOf_4 (nI x) md th ko m x8 x9)) = ko (nI (ab th md x)) 12 := by
      intro q7 hq
      rw [lt_eq, lt_eq, or_nI, nI_1, hq]
      exact ih m (i + 1) (by omega) (by omega)
    by_cases hi : hb th i = true
    · rw [if_pos hi, if_neg (by decide), wayOf11 hT (by omega) hi, sb', has11, sb', hb_nI (by have := (wy_ind hT i (by omega) hi).2.2; omega) (by omega), shl1 i (by omega)]
      cases hw : (wy md i).testBit x with
      | true => exact key _ (by simp [abF, hi, hw])
      | false => exact key 0 (by simp [abF, hi, hw])
    · rw [if_neg hi, if_pos rfl]
      exact key 0 (by simp [abF, hi])
theorem aboveOf11 {th : Int32} {md : Nat → Int32} (hT : Tree th md) {x : Nat} (hx : x < 12) : f_X11_aboveOf (nI x) md th = some (nI (ab th md x)) := by
  unfold f_X11_aboveOf
  exact above_loop hT hx _ 12 FU 0 (by omega) (by rw [fu_s]; omega)
/-- promise 8 -/
theorem p_above {th : Int32} {md ov : Nat → Int32} (hT : Tree th md) (ho : ∀ x, x < 12 → ov x = nI (ab th md x)) (p0 : Int32) : ∃ r, f_X10_above p0 th ov = some r ∧ f_X11_above p0 md th = some r := by
  unfold f_X10_above f_X11_above
  simp only [there10, node11, sb']
  by_cases h : isN th p0 = true
  · obtain ⟨v, hv, rfl, hbv⟩ := isN_of h
    simp only [if_pos h, if_neg one_ne]
    rw [aboveOf11 hT hv, ri_nI hv (by decide), ho v hv]
    exact ⟨_, rfl, rfl⟩
  · simp only [if_neg h]
    exact ⟨_, rfl, rfl⟩
theorem stand_loop {th : Int32} {md td : Nat → Int32} (hT : Tree th md) (hd : ∀ v, v < 12 → hb th v = true → td v = md v) {p : Nat} (hp : p < 12) : ∀ (v : Nat), v < 12 → hb th v = true → ∀ (n j : Nat) (f : Nat → Int32), v + 1 < n → j + v < 12 → ∃ f' : Nat → Int32, LX9_standOverAllBelow_4 (nI p) td (fun _ _ f => some f) n (nI v) (nI j) f = some f' ∧ ∀ x, x < 12 → f' x = if (wy md v).testBit x then f x ||| nI (2 ^ p) else f x := by
  intro v
  induction v using Nat.strongRecOn with
  | _ v ih =>
    intro h1 h2 n j f hn hj
    obtain ⟨m, rfl⟩ : ∃ m, n = m + 1 := ⟨n - 1, by omega⟩
    rw [LX9_standOverAllBelow_4_s, if_neg (show ¬ (12 : Int32) ≤ nI j from nI_ge (a := j) (b := 12) (by omega) (by decide)), if_neg (nI_pos (by omega)), ri_nI h1 (by decide), shl1 p hp, wi_nI h1 (by decide), ri_nI h1 (by decide), lt_eq, nI_1, hd v h1 h2]
    by_cases hv : v = 0
    · subst hv
      obtain ⟨m', rfl⟩ : ∃ m', m = m' + 1 := ⟨m - 1, by omega⟩
      refine ⟨upd f 0 (f 0 ||| nI (2 ^ p)), ?_, fun x hx => ?_⟩
      · rw [LX9_standOverAllBelow_4_s, hT.2.1]
        split
        · rfl
        · rfl
      · rw [wy_0]
        by_cases h : x = 0
        · subst h; rw [pk_us]; rfl
        · rw [pk_un h, show (1 : Nat) = 2 ^ 0 from rfl, Nat.testBit_two_pow, if_neg (by simp; omega)]
    · obtain ⟨q1, q2, q3⟩ := hT.step (by omega) h1 h2
      rw [q2]
      obtain ⟨f', e1, e2⟩ := ih _ q1 (by omega) q3 m (j + 1) (upd f v (f v ||| nI (2 ^ p))) (by omega) (by omega)
      refine ⟨f', e1, fun x hx => ?_⟩
      rw [e2 x hx, wy_s hT (by omega) h1 h2, Nat.testBit_or, Nat.testBit_two_pow]
      by_cases h : x = v
      · subst h
        have : (wy md (dn md x)).testBit x = false := by
          cases hz : (wy md (dn md x)).testBit x with
          | false => rfl
          | true => have := ((wy_ind hT _ (by omega) q3).1 x hz).1; omega
        rw [this, pk_us]; simp
      · rw [pk_un h]
        have : decide (v = x) = false := by simp; omega
        rw [this, Bool.false_or]
