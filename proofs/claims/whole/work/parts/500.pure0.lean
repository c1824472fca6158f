/-! the pure side: numbers, loops, and how the small functions go through -/
theorem fu_s : FU = 5999 + 1 := rfl
theorem nI_lit (n : Nat) : (OfNat.ofNat n : Int32) = nI n := rfl
theorem ri_nI {R : Type} {f : Nat → Int32} {n i : Nat} {k : Int32 → Option R} (h : i < n) (hn : n < 2 ^ 31) : ri f n (nI i) k = k (f i) := by
  unfold ri
  rw [if_neg (nI_in h hn), nI_clamp (by omega)]
theorem rl_nI {R : Type} {f : Nat → Int64} {n i : Nat} {k : Int64 → Option R} (h : i < n) (hn : n < 2 ^ 31) : rl f n (nI i) k = k (f i) := by
  unfold rl
  rw [if_neg (nI_in h hn), nI_clamp (by omega)]
theorem ix_nI {R : Type} {n i : Nat} {k : Nat → Option R} (h : i < n) (hn : n < 2 ^ 31) : ix n (nI i) k = k i := by
  unfold ix
  rw [if_neg (nI_in h hn), nI_clamp (by omega)]
theorem wi_nI {R : Type} {f : Nat → Int32} {n i : Nat} {x : Int32} {k : (Nat → Int32) → Option R} (h : i < n) (hn : n < 2 ^ 31) : wi f n (nI i) x k = k (upd f i x) := by
  unfold wi
  rw [if_neg (nI_in h hn), nI_clamp (by omega)]
theorem wl_nI {R : Type} {f : Nat → Int64} {n i : Nat} {x : Int64} {k : (Nat → Int64) → Option R} (h : i < n) (hn : n < 2 ^ 31) : wl f n (nI i) x k = k (vp_updL f i x) := by
  unfold wl
  rw [if_neg (nI_in h hn), nI_clamp (by omega)]
theorem nz_ok {R : Type} {y : Int32} {k : Option R} (h : ¬ y = 0) : nz y k = k := by unfold nz; rw [if_neg h]
theorem nzl_ok {R : Type} {y : Int64} {k : Option R} (h : ¬ y = 0) : nzl y k = k := by unfold nzl; rw [if_neg h]
theorem bq_ok {R : Type} {y : Int32} {k : Option R} (h : y = 0 ∨ y = 1) : bq y k = k := by unfold bq; rw [if_pos h]
theorem lt_eq {α β : Type} (a : α) (k : α → β) : lt a k = k a := rfl
theorem ib {A R : Type} {c : Prop} [Decidable c] {a b : A} {k : A → Option R} : Option.bind (if c then some a else some b) k = k (if c then a else b) := by
  split <;> rfl
theorem sb' {A R : Type} {a : A} {k : A → Option R} : Option.bind (some a) k = k a := rfl
/-- a bit of a set -/
def hb (s : Int32) (v : Nat) : Bool := decide (¬ (s >>> (nI v &&& 31) &&& 1) = 0)
theorem and1 (x : Int32) : x &&& 1 = 0 ∨ x &&& 1 = 1 := by
  have h := pk_and x (m := 1) 1 rfl
  have h2 : x.toBitVec.toNat % 2 ^ 1 < 2 := Nat.mod_lt _ (by decide)
  rw [h]
  generalize x.toBitVec.toNat % 2 ^ 1 = z at h2
  have : z = 0 ∨ z = 1 := by omega
  rcases this with rfl | rfl
  · exact Or.inl rfl
  · exact Or.inr rfl
theorem has10 (s : Int32) (v : Nat) : f_X10_has s (nI v) = some (if hb s v then 1 else 0) := by
  unfold f_X10_has hb
  by_cases h : (s >>> (nI v &&& 31) &&& 1) = 0
  · rw [if_pos h]; simp [h]
  · rw [if_neg h]; simp [h]
theorem has11 (s : Int32) (v : Nat) : f_X11_has s (nI v) = some (if hb s v then 1 else 0) := by
  unfold f_X11_has hb
  rcases and1 (s >>> (nI v &&& 31)) with h | h
  · rw [h]; simp
  · rw [h]; simp
theorem in11 {a b c : Int64} : f_X11_in a b c = some (if b ≤ a ∧ a ≤ c then 1 else 0) := by
  unfold f_X11_in lg_cmp
  by_cases h1 : a < b
  · have h2 : ¬ a > b := fun q => Int64.lt_irrefl (Int64.lt_trans q h1)
    have h3 : ¬ a = b := fun q => by rw [q] at h1; exact Int64.lt_irrefl h1
    have h4 : ¬ b ≤ a := Int64.not_le.mpr h1
    simp [h2, h3, h4]
  · have h4 : b ≤ a := Int64.not_lt.mp h1
    have h5 : ¬ (if a > b then (1 : Int32) else if a = b then 0 else -1) < 0 := by
      split
      · decide
      · rename_i q
        have : a = b := Int64.le_antisymm (Int64.not_lt.mp q) h4
        rw [if_pos this]; decide
    rw [if_neg h5]
    by_cases h6 : a > c
    · have h7 : ¬ a ≤ c := Int64.not_le.mpr h6
      simp [h6, h7]
    · have h7 : a ≤ c := Int64.not_lt.mp h6
      have h8 : ¬ (0 : Int32) < (if a > c then (1 : Int32) else if a = c then 0 else -1) := by
        rw [if_neg h6]
        split <;> decide
      rw [if_neg h8]
      simp [h4, h7]
theorem one_ne : ¬ (1 : Int32) = 0 := by decide
theorem two {R : Type} {A B : Option R} (h : A = B) (h2 : ∃ r, A = some r) : ∃ r, A = some r ∧ B = some r := by
  obtain ⟨r, e⟩ := h2
  exact ⟨r, e, h ▸ e⟩
