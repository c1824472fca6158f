/-! ranges, fillings, comes, should -/
theorem ilt (a b : Int32) : a < b ↔ a.toInt < b.toInt := Int32.lt_iff_toInt_lt
theorem ile (a b : Int32) : a ≤ b ↔ a.toInt ≤ b.toInt := Int32.le_iff_toInt_le
theorem rg {p : Int32} {B : Nat} (hB : B + 1 < 2 ^ 31) : (0 ≤ p ∧ p ≤ nI B) ↔ (¬ p < 0 ∧ ¬ nI (B + 1) ≤ p) := by
  rw [ilt, ile, ile, ile, nI_toInt (by omega), nI_toInt (by omega)]
  have : (0 : Int32).toInt = 0 := rfl
  rw [this]
  constructor <;> intro h <;> constructor <;> omega
theorem rg_of {p : Int32} {B : Nat} (hB : B < 2 ^ 31) (h : 0 ≤ p ∧ p ≤ nI B) : ∃ k, k ≤ B ∧ p = nI k := by
  obtain ⟨j, hj, rfl⟩ := nI_of (Int32.not_lt.mpr h.1)
  exact ⟨j, (nI_leI hj hB).mp h.2, rfl⟩
theorem min10 (p : Int32) : f_X10_isMinute p = some (if 0 ≤ p ∧ p ≤ 1439 then 1 else 0) := by
  unfold f_X10_isMinute
  have this : (0 ≤ p ∧ p ≤ 1439) ↔ (¬ p < 0 ∧ ¬ (1440 : Int32) ≤ p) := rg (p := p) (B := 1439) (by decide)
  by_cases h1 : p < 0
  · rw [if_pos h1, if_neg (fun q => (this.mp q).1 h1)]
  · rw [if_neg h1]
    by_cases h2 : (1440 : Int32) ≤ p
    · rw [if_pos h2, if_neg (fun q => (this.mp q).2 h2)]
    · rw [if_neg h2, if_pos (this.mpr ⟨h1, h2⟩)]
theorem part_of {p : Int32} (h : 0 ≤ p ∧ p ≤ 1) : p = 0 ∨ p = 1 := by
  obtain ⟨k, hk, rfl⟩ := rg_of (B := 1) (by decide) h
  have : k = 0 ∨ k = 1 := by omega
  rcases this with rfl | rfl
  · exact Or.inl rfl
  · exact Or.inr rfl
theorem part10 (p : Int32) : f_X10_isPart p = some (if 0 ≤ p ∧ p ≤ 1 then 1 else 0) := by
  unfold f_X10_isPart
  by_cases h : 0 ≤ p ∧ p ≤ 1
  · rw [if_pos h]
    rcases part_of h with rfl | rfl <;> rfl
  · rw [if_neg h, if_neg (fun q => h (by rw [q]; decide)), if_neg (fun q => h (by rw [q]; decide))]
theorem part11 (p : Int32) : f_X11_isPart p = some (if 0 ≤ p ∧ p ≤ 1 then 1 else 0) := by
  unfold f_X11_isPart
  rw [inI p 0 1 (B := 0) (C := 1) rfl rfl, sb']
theorem i32n (p : Int32) : p = nI p.toBitVec.toNat := by
  apply Int32.toBitVec_inj.mp
  show p.toBitVec = BitVec.ofNat 32 p.toBitVec.toNat
  simp
theorem m1n : (-1 : Int32) = nI 4294967295 := by decide
theorem tb32 (i : Nat) : (4294967295 : Nat).testBit i = decide (i < 32) := by
  rw [show (4294967295 : Nat) = 2 ^ 32 - 1 by decide, Nat.testBit_two_pow_sub_one]
theorem tb_hi {s n x : Nat} (hs : s < 2 ^ n) (hx : n ≤ x) : s.testBit x = false := Nat.testBit_lt_two_pow (Nat.lt_of_lt_of_le hs (Nat.pow_le_pow_right (by decide) hx))
theorem subI {t : Nat} (ht : t < 4096) (p : Int32) : (p &&& (nI t ^^^ (-1))) = 0 ↔ ∃ s, s < 4096 ∧ p = nI s ∧ s &&& t = s := by
  rw [m1n, xor_nI]
  constructor
  · intro h
    have hp := i32n p
    have hlt : p.toBitVec.toNat < 2 ^ 32 := p.toBitVec.isLt
    generalize p.toBitVec.toNat = P at hp hlt
    subst hp
    rw [and_nI] at h
    have h1 : P &&& (t ^^^ 4294967295) < 2 ^ 32 := Nat.lt_of_le_of_lt Nat.and_le_left hlt
    have h2 := congrArg (fun z => z.toBitVec.toNat) h
    have h3 : P &&& (t ^^^ 4294967295) = 0 := (pk_tn h1).symm.trans h2
    have h4 : P &&& t = P := by
      apply Nat.eq_of_testBit_eq
      intro i
      rw [Nat.testBit_and]
      have h5 : (P &&& (t ^^^ 4294967295)).testBit i = false := by rw [h3]; exact Nat.zero_testBit i
      rw [Nat.testBit_and, Nat.testBit_xor, tb32] at h5
      by_cases hi : i < 32
      · simp only [hi, decide_true] at h5
        cases hP : P.testBit i <;> cases htb : t.testBit i <;> simp_all
      · rw [tb_hi hlt (by omega)]; rfl
    refine ⟨P, ?_, rfl, h4⟩
    have : P &&& t ≤ t := Nat.and_le_right
    omega
  · rintro ⟨s, hs, rfl, h⟩
    rw [and_nI]
    have : s &&& (t ^^^ 4294967295) = 0 := by
      apply Nat.eq_of_testBit_eq
      intro i
      rw [Nat.zero_testBit, Nat.testBit_and, Nat.testBit_xor, tb32, ← h, Nat.testBit_and]
      by_cases hi : i < 32
      · simp only [hi, decide_true]
        cases s.testBit i <;> cases t.testBit i <;> rfl
      · rw [tb_hi (n := 12) hs (by omega)]; rfl
    rw [this]
    rfl
theorem nsub1 {k : Nat} (h : 1 ≤ k) : nI k - 1 = nI (k - 1) := pk_sub (b := 1) h
/-- a filling that may be -/
def Fl (t : Nat) (p0 p1 p2 : Int32) (s m k : Nat) : Prop := s < 4096 ∧ s ≠ 0 ∧ s &&& t = s ∧ 1 ≤ k ∧ k ≤ 6 ∧ m + 60 * (k - 1) < 1440 ∧ p0 = nI s ∧ p1 = nI m ∧ p2 = nI k
theorem fill2 {t : Nat} (ht : t < 4096) (p0 p1 p2 : Int32) : (f_X10_canFill p0 p1 p2 (nI t) = some 0 ∧ f_X11_isFill p0 p1 p2 (nI t) = some 0) ∨ (f_X10_canFill p0 p1 p2 (nI t) = some 1 ∧ f_X11_isFill p0 p1 p2 (nI t) = some 1 ∧ ∃ s m k, Fl t p0 p1 p2 s m k) := by
  unfold f_X10_canFill f_X11_isFill
  rw [inI p0 1 4095 (B := 1) (C := 4095) rfl rfl, sb']
  by_cases h0 : p0 = 0
  · subst h0
    exact Or.inl ⟨rfl, rfl⟩
  · rw [if_neg h0]
    by_cases h1 : (p0 &&& (nI t ^^^ (-1))) = 0
    · obtain ⟨s, hs, rfl, hst⟩ := (subI ht p0).mp h1
      have hs0 : s ≠ 0 := fun q => h0 (by rw [q]; rfl)
      have h2 : (1 : Int32) ≤ nI s ∧ nI s ≤ 4095 := ⟨nI_le (a := 1) (by omega) (by omega), nI_le (b := 4095) (by omega) (by decide)⟩
      rw [if_pos h2, if_neg one_ne, if_pos h1, if_pos h1, min10, sb', inI p2 1 6 (B := 1) (C := 6) rfl rfl, sb', inI p1 0 1439 (B := 0) (C := 1439) rfl rfl, sb']
      by_cases h3 : 0 ≤ p1 ∧ p1 ≤ 1439
      · simp only [if_pos h3, if_neg one_ne]
        by_cases h4 : 1 ≤ p2 ∧ p2 ≤ 6
        · obtain ⟨m, hm, rfl⟩ := rg_of (B := 1439) (by decide) h3
          obtain ⟨k, hk, rfl⟩ := rg_of (p := p2) (B := 6) (by decide) ⟨Int32.le_trans (by decide) h4.1, h4.2⟩
          have hk1 : 1 ≤ k := (nI_leI (a := 1) (by decide) (by omega)).mp h4.1
          simp only [if_pos h4, if_neg one_ne, if_neg (show ¬ nI k < 1 from nI_nlt (b := 1) hk1 (by omega)), if_neg (show ¬ (6 : Int32) < nI k from nI_nlt (a := 6) hk (by decide))]
          rw [nsub1 hk1, i60, nI_add, show (60 : Int32) = nI 60 from rfl, pk_mul, nI_add, min10, sb', Nat.mul_comm 60]
          by_cases h5 : m + (k - 1) * 60 < 1440
          · have h6 : 0 ≤ nI (m + (k - 1) * 60) ∧ nI (m + (k - 1) * 60) ≤ 1439 := ⟨nI_pos' (by omega), nI_le (b := 1439) (by omega) (by decide)⟩
            have h7 : ¬ (1440 : Int32) ≤ nI (m + (k - 1) * 60) := nI_ge (b := 1440) h5 (by decide)
            simp only [if_pos h6, if_neg one_ne, if_neg h7]
            exact Or.inr ⟨trivial, trivial, s, m, k, hs, hs0, hst, hk1, hk, by omega, rfl, rfl, rfl⟩
          · have h6 : ¬ (0 ≤ nI (m + (k - 1) * 60) ∧ nI (m + (k - 1) * 60) ≤ 1439) := fun q => by
              have := (nI_leI (b := 1439) (by omega) (by decide)).mp q.2
              omega
            have h7 : (1440 : Int32) ≤ nI (m + (k - 1) * 60) := nI_le (a := 1440) (by omega) (by omega)
            simp only [if_neg h6, if_pos h7, if_true]
            exact Or.inl ⟨trivial, trivial⟩
        · simp only [if_neg h4]
          refine Or.inl ⟨?_, rfl⟩
          by_cases h5 : p2 < 1
          · rw [if_pos h5]
          · rw [if_neg h5]
            by_cases h6 : (6 : Int32) < p2
            · rw [if_pos h6]
            · exact absurd ⟨Int32.not_lt.mp h5, Int32.not_lt.mp h6⟩ h4
      · simp only [if_neg h3]
        refine Or.inl ⟨rfl, ?_⟩
        by_cases h4 : 1 ≤ p2 ∧ p2 ≤ 6
        · simp only [if_pos h4, if_neg one_ne]; rfl
        · simp only [if_neg h4]; rfl
    · rw [if_neg h1, if_neg h1]
      refine Or.inl ⟨rfl, ?_⟩
      split <;> rfl
/-- what the water of the class holds -/
def Wat (th : Int32) (md mi go fl st fr to wg : Nat → Int32) (sL sT : Nat → Nat → Int32) (sF sU : Nat → Int32) : Prop := (∀ v, v < 12 → wg v = smS fl (ab th md v) 12) ∧ ∀ v, v < 12 → hb th v = true → Sm md mi go sL sT sF sU (24 + 3 * v) v (st v) (fr v) (to v)
theorem d60 {m : Nat} (h : m < 1440) : nI m / 60 = nI (m / 60) := pk_div (d := 60) (by omega) (by decide) (by decide)
theorem thin10 {th : Int32} {md fl rn wg : Nat → Int32} {sL sT : Nat → Nat → Int32} {sF sU : Nat → Int32} (hg : ∀ v, v < 12 → wg v = smS fl (ab th md v) 12) {o1 o2 : Option Nat} {x m : Nat} {a1 a2 : Int32} (hx : x < 12) (hm : m < 1440) (h1 : (om o1 (some 0) fun b => f_X4_amountAt b (nI x) (nI m) sL sT sF sU) = some a1) (h2 : (om o2 (some 0) fun b => f_X4_amountAt b (nI x) (nI m) sL sT sF sU) = some a2) : f_X8_thinAt (nI x) (nI m) o1 o2 rn wg sL sT sF sU = some ((1000 * (a1 + a2)) / flS th md fl rn x (m / 60)) := by
  unfold f_X8_thinAt
  rw [d60 hm, flowAt10 fl rn hg hx (by omega)]
  have e1 : (om o1 (some 0) fun b10 => (f_X4_amountAt b10 (nI x) (nI m) sL sT sF sU).bind fun q12 => lt (0 + q12) fun x13 => some x13) = some a1 := by
    rw [← h1]
    cases o1 with
    | none => rfl
    | some b =>
      show (f_X4_amountAt b (nI x) (nI m) sL sT sF sU).bind _ = f_X4_amountAt b (nI x) (nI m) sL sT sF sU
      cases f_X4_amountAt b (nI x) (nI m) sL sT sF sU with
      | none => rfl
      | some r => rw [sb', lt_eq, Int32.zero_add]
  have e2 : (om o2 (some a1) fun b6 => (f_X4_amountAt b6 (nI x) (nI m) sL sT sF sU).bind fun q8 => lt (a1 + q8) fun x9 => some x9) = some (a1 + a2) := by
    cases o2 with
    | none =>
      have : (0 : Int32) = a2 := Option.some.inj h2
      rw [← this, Int32.add_zero]; rfl
    | some b =>
      have h2' : f_X4_amountAt b (nI x) (nI m) sL sT sF sU = some a2 := h2
      show (f_X4_amountAt b (nI x) (nI m) sL sT sF sU).bind _ = _
      rw [h2', sb', lt_eq]
  rw [e1, sb', e2, sb', nz_ok (by decide), sb', nz_ok (flS_ne th md fl rn x (m / 60))]
theorem thin11 {th : Int32} {md fl rn : Nat → Int32} (hT : Tree th md) (a : Int32) {x m : Nat} (hx : x < 12) (hm : m < 1440) : f_X11_thin a (nI x) (nI m) md fl rn th = some ((1000 * a) / flS th md fl rn x (m / 60)) := by
  unfold f_X11_thin
  rw [d60 hm, flowOf11 hT fl rn hx (by omega), sb', nz_ok (by decide), nz_ok (flS_ne th md fl rn x (m / 60))]
/-- promise 11 -/
theorem p_comes {th : Int32} {md mi go fl st fr to rn wg : Nat → Int32} {sL sT : Nat → Nat → Int32} {sF sU : Nat → Int32} (hT : Tree th md) (hm : Bd mi 12 99) (hfr : Bd fr 12 23) (hto : Bd to 12 23) (hW : Wat th md mi go fl st fr to wg sL sT sF sU) (p0 p1 p2 p3 : Int32) : ∃ r, f_X10_comes p0 p1 p2 p3 rn th wg sL sT sF sU = some r ∧ f_X11_comes p0 p1 p2 p3 md mi go fl st fr to rn th = some r := by
  unfold f_X10_comes f_X11_comes
  simp only [there10, node11, sb', min10, part10]
  by_cases h : isN th p0 = true
  · obtain ⟨v, hv, rfl, hbv⟩ := isN_of h
    simp only [if_pos h, if_neg one_ne]
    by_cases h2 : isN th p1 = true
    · obtain ⟨x, hx, rfl, hbx⟩ := isN_of h2
      simp only [if_pos h2, if_neg one_ne]
      rw [inI p2 0 1439 (B := 0) (C := 1439) rfl rfl, sb', inI p3 0 1 (B := 0) (C := 1) rfl rfl, sb']
      by_cases h3 : 0 ≤ p2 ∧ p2 ≤ 1439
      · obtain ⟨m, hm', rfl⟩ := rg_of (B := 1439) (by decide) h3
        simp only [if_pos h3, if_neg one_ne]
        by_cases h4 : 0 ≤ p3 ∧ p3 ≤ 1
        · simp only [if_pos h4, if_neg one_ne]
          have e1 := amount10 (hW.2 v hv hbv) hx m
          rw [ix_nI hv (by decide), told11 hT hm hfr hto hv hbv hx (by omega), sb', e1, thin10 (o1 := some (24 + 3 * v)) (o2 := none) hW.1 hx (by omega) e1 rfl, thin11 hT _ hx (by omega), Int32.add_zero]
          by_cases h5 : p3 = 0
          · rw [if_pos h5, if_pos h5]; exact ⟨_, rfl, rfl⟩
          · rw [if_neg h5, if_neg h5]; exact ⟨_, rfl, rfl⟩
        · simp only [if_neg h4]; exact ⟨_, rfl, rfl⟩
      · simp only [if_neg h3]; exact ⟨_, rfl, rfl⟩
    · simp only [if_neg h2]; exact ⟨_, rfl, rfl⟩
  · simp only [if_neg h]; exact ⟨_, rfl, rfl⟩
