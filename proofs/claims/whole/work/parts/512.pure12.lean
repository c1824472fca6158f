/-! two at once -/
theorem sx_a (a : Int64) (f : Nat → Int64) : ∀ n, sx a f n = a + sx 0 f n
  | 0 => by rw [sx, sx, Int64.add_zero]
  | n + 1 => by rw [sx, sx, sx_a a f n, Int64.add_assoc]
theorem sx_split (a : Int64) (g : Nat → Int64) (m : Nat) : ∀ r, sx a g (m + r) = sx (sx a g m) (fun j => g (m + j)) r
  | 0 => rfl
  | r + 1 => by
    show sx a g (m + r) + g (m + r) = sx (sx a g m) (fun j => g (m + j)) r + g (m + r)
    rw [sx_split a g m r]
theorem sx_block (g : Nat → Int64) : ∀ k, sx 0 g (12 * k) = sx 0 (fun i => sx 0 (fun j => g (12 * i + j)) 12) k
  | 0 => rfl
  | k + 1 => by
    rw [Nat.mul_succ, sx_split, sx_a, sx_block g k]
    rfl
theorem sx_cong {a : Int64} {f g : Nat → Int64} : ∀ n, (∀ i, i < n → f i = g i) → sx a f n = sx a g n
  | 0, _ => rfl
  | n + 1, h => by rw [sx, sx, sx_cong n (fun i hi => h i (by omega)), h n (by omega)]
theorem sx_add (f g : Nat → Int64) : ∀ n, sx 0 (fun i => f i + g i) n = sx 0 f n + sx 0 g n
  | 0 => rfl
  | n + 1 => by
    rw [sx, sx, sx, sx_add f g n, Int64.add_assoc, Int64.add_assoc]
    congr 1
    rw [← Int64.add_assoc, ← Int64.add_assoc, Int64.add_comm (sx 0 g n)]
theorem sx_z : ∀ n, sx 0 (fun _ => 0) n = 0
  | 0 => rfl
  | n + 1 => by rw [sx, sx_z n]; rfl
theorem sx_swap (f : Nat → Nat → Int64) (m : Nat) : ∀ n, sx 0 (fun i => sx 0 (f i) m) n = sx 0 (fun j => sx 0 (fun i => f i j) n) m
  | 0 => by
    show (0 : Int64) = sx 0 (fun _ => 0) m
    rw [sx_z]
  | n + 1 => by
    rw [sx, sx_swap f m n]
    exact (sx_add (fun j => sx 0 (fun i => f i j) n) (f n) m).symm
theorem sx_cut (f : Nat → Int64) (j : Nat) : ∀ n, sx 0 (fun i => if j ≤ i then 0 else f i) n = sx 0 f (if n ≤ j then n else j)
  | 0 => by rw [if_pos (Nat.zero_le _)]; rfl
  | n + 1 => by
    rw [sx, sx_cut f j n]
    by_cases h : n + 1 ≤ j
    · rw [if_pos h, if_pos (by omega), if_neg (by omega)]; rfl
    · rw [if_neg h, if_pos (show j ≤ n by omega), Int64.add_zero]
      by_cases h2 : n ≤ j
      · rw [if_pos h2]
        have : n = j := by omega
        rw [this]
      · rw [if_neg h2]
def cs (P : Nat → Nat → Int64) : Nat → Int64
  | 0 => 0
  | h + 1 => sx (cs P h) (P h) h
theorem cs_sx (P : Nat → Nat → Int64) : ∀ h, cs P h = sx 0 (fun j => sx 0 (P j) j) h
  | 0 => rfl
  | h + 1 => by rw [cs, sx, sx_a, cs_sx P h]
theorem cs_all (P : Nat → Nat → Int64) (hs : ∀ i j, i < j → j < 12 → P i j = P j i) : cs P 12 = sx 0 (fun x => if x % 12 ≤ x / 12 then 0 else P (x / 12) (x % 12)) 144 := by
  rw [show (144 : Nat) = 12 * 12 from rfl, sx_block, cs_sx]
  have e1 : sx 0 (fun i => sx 0 (fun j => (fun x => if x % 12 ≤ x / 12 then 0 else P (x / 12) (x % 12)) (12 * i + j)) 12) 12 = sx 0 (fun i => sx 0 (fun j => if j ≤ i then 0 else P i j) 12) 12 := by
    refine sx_cong 12 (fun i hi => sx_cong 12 (fun j hj => ?_))
    have a1 : (12 * i + j) % 12 = j := by omega
    have a2 : (12 * i + j) / 12 = i := by omega
    simp only [a1, a2]
  rw [e1, sx_swap (fun i j => if j ≤ i then 0 else P i j)]
  refine sx_cong 12 (fun j hj => ?_)
  rw [sx_cut (fun i => P i j) j 12, if_neg (by omega)]
  exact sx_cong j (fun i hi => (hs i j hi hj).symm)
def C2 (th : Int32) (md mi go fl lk st fr to rn te fy fn fd : Nat → Int32) (n : Nat) (al : Int64) (tw : Nat → Int64) : Prop := (∀ v u, v < 12 → u < 12 → v ≠ u → (srN th lk).testBit v = true → (srN th lk).testBit u = true → tw (v * 12 + u) = gd (f_X11_pair (nI v) (nI u) md mi go fl lk st fr to rn te fy fn fd th (nI n))) ∧ al = sx 0 (fun x => if x % 12 ≤ x / 12 then 0 else (if (srN th lk).testBit (x / 12) = true ∧ (srN th lk).testBit (x % 12) = true then gd (f_X11_pair (nI (x / 12)) (nI (x % 12)) md mi go fl lk st fr to rn te fy fn fd th (nI n)) else 0)) 144
section
variable {th bl : Int32} {md mi go fl lk st fr to rn te fy fn fd wg : Nat → Int32} {sL sT : Nat → Nat → Int32} {sF sU fC fS fM fT fY : Nat → Int32} {n : Nat}
theorem t_2 (hT : Tree th md) (hm : Bd mi 12 99) (hfr : Bd fr 12 23) (hto : Bd to 12 23) (hte : ∀ c, c < 4 → ∃ k, 1 ≤ k ∧ k ≤ 9999 ∧ te c = nI k) (hfy : Bd fy 4 9) (hfn : Bd fn 4 9) (hW : Wat th md mi go fl st fr to wg sL sT sF sU) (hF : Fnd fC fS fM fT fY fd n) (hlk : Bd lk 12 99) {v u : Nat} (hv : v < 12) (hbv : hb th v = true) (hu : u < 12) (hbu : hb th u = true) : ∃ b, b ≤ 98010000000000 ∧ f_X6_thoughtBy (Int32.toInt64 (lk v * lk u)) (some (24 + 3 * v)) (some (24 + 3 * u)) rn te fy fn wg (nI n) sL sT sF sU fC fS fM fT fY = some (lN b) ∧ f_X11_pair (nI v) (nI u) md mi go fl lk st fr to rn te fy fn fd th (nI n) = some (lN b) ∧ f_X11_pair (nI u) (nI v) md mi go fl lk st fr to rn te fy fn fd th (nI n) = some (lN b) := by
  obtain ⟨k, hk, e⟩ := hlk v hv
  obtain ⟨j, hj, e'⟩ := hlk u hu
  have hkj : k * j ≤ 9801 := Nat.le_trans (Nat.mul_le_mul hk hj) (by decide)
  obtain ⟨b, b1, b2, b3⟩ := tho2 hF.1 (q_2 hT hm hfr hto hte hfy hfn hW hF hv hbv hu hbu) (a := k * j) hkj
  obtain ⟨b', b1', b2', b3'⟩ := tho2 hF.1 (q_3 hT hm hfr hto hte hfy hfn hW hF hv hbv hu hbu) (a := k * j) hkj
  rw [b2] at b2'
  have eb : lN b = lN b' := Option.some.inj b2'
  refine ⟨b, by omega, ?_, ?_, ?_⟩
  · rw [e, e', pk_mul, nI_l (by omega)]; exact b2
  · unfold f_X11_pair
    rw [ri_nI hv (by decide), ri_nI hu (by decide), e, e', nI_l (by omega), nI_l (by omega), lN_mul, b3]; rfl
  · unfold f_X11_pair
    rw [ri_nI hu (by decide), ri_nI hv (by decide), e, e', nI_l (by omega), nI_l (by omega), lN_mul, Nat.mul_comm j k, b3', eb]; rfl
theorem pg_bd (hT : Tree th md) (hm : Bd mi 12 99) (hfr : Bd fr 12 23) (hto : Bd to 12 23) (hte : ∀ c, c < 4 → ∃ k, 1 ≤ k ∧ k ≤ 9999 ∧ te c = nI k) (hfy : Bd fy 4 9) (hfn : Bd fn 4 9) (hW : Wat th md mi go fl st fr to wg sL sT sF sU) (hF : Fnd fC fS fM fT fY fd n) (hlk : Bd lk 12 99) : ∃ k, k ≤ 98010000000000 * 145 ∧ sx 0 (fun x => if x % 12 ≤ x / 12 then 0 else (if (srN th lk).testBit (x / 12) = true ∧ (srN th lk).testBit (x % 12) = true then gd (f_X11_pair (nI (x / 12)) (nI (x % 12)) md mi go fl lk st fr to rn te fy fn fd th (nI n)) else 0)) 144 = lN k := by
  refine sx_bd 98010000000000 ⟨0, by omega, rfl⟩ 144 (fun x hx => ?_)
  by_cases h : x % 12 ≤ x / 12
  · exact ⟨0, by omega, by simp only [if_pos h]; rfl⟩
  · by_cases h2 : (srN th lk).testBit (x / 12) = true ∧ (srN th lk).testBit (x % 12) = true
    · obtain ⟨a1, a2, _⟩ := sr_bit h2.1
      obtain ⟨a3, a4, _⟩ := sr_bit h2.2
      obtain ⟨b, hb, _, h3, _⟩ := t_2 hT hm hfr hto hte hfy hfn hW hF hlk a1 a2 a3 a4
      exact ⟨b, hb, by simp only [if_neg h, if_pos h2]; rw [h3]; rfl⟩
    · exact ⟨0, by omega, by simp only [if_neg h, if_neg h2]; rfl⟩
theorem two11 (hT : Tree th md) (hm : Bd mi 12 99) (hfr : Bd fr 12 23) (hto : Bd to 12 23) (hte : ∀ c, c < 4 → ∃ k, 1 ≤ k ∧ k ≤ 9999 ∧ te c = nI k) (hfy : Bd fy 4 9) (hfn : Bd fn 4 9) (hW : Wat th md mi go fl st fr to wg sL sT sF sU) (hF : Fnd fC fS fM fT fY fd n) (hlk : Bd lk 12 99) (ko : Int64 → Int32 → Option Int64) : LX11_two_48 md mi go fl lk st fr to rn te fy fn fd th (nI n) (nI (srN th lk)) ko FU 0 0 = ko (sx 0 (fun x => if x % 12 ≤ x / 12 then 0 else (if (srN th lk).testBit (x / 12) = true ∧ (srN th lk).testBit (x % 12) = true then gd (f_X11_pair (nI (x / 12)) (nI (x % 12)) md mi go fl lk st fr to rn te fy fn fd th (nI n)) else 0)) 144) (nI 144) := by
  have hl := sr_lt th lk
  refine itv 144 (fun N i => LX11_two_48 md mi go fl lk st fr to rn te fy fn fd th (nI n) (nI (srN th lk)) ko N (sx 0 (fun x => if x % 12 ≤ x / 12 then 0 else (if (srN th lk).testBit (x / 12) = true ∧ (srN th lk).testBit (x % 12) = true then gd (f_X11_pair (nI (x / 12)) (nI (x % 12)) md mi go fl lk st fr to rn te fy fn fd th (nI n)) else 0)) i) (nI i)) _ ?_ ?_ FU 0 (by omega) (fu_lt (by omega))
  · intro N
    show LX11_two_48 md mi go fl lk st fr to rn te fy fn fd th (nI n) (nI (srN th lk)) ko (N + 1) (sx 0 (fun x => if x % 12 ≤ x / 12 then 0 else (if (srN th lk).testBit (x / 12) = true ∧ (srN th lk).testBit (x % 12) = true then gd (f_X11_pair (nI (x / 12)) (nI (x % 12)) md mi go fl lk st fr to rn te fy fn fd th (nI n)) else 0)) 144) (nI 144) = _
    rw [LX11_two_48_s, if_pos (by decide)]
  · intro N i hi
    show LX11_two_48 md mi go fl lk st fr to rn te fy fn fd th (nI n) (nI (srN th lk)) ko (N + 1) (sx 0 (fun x => if x % 12 ≤ x / 12 then 0 else (if (srN th lk).testBit (x / 12) = true ∧ (srN th lk).testBit (x % 12) = true then gd (f_X11_pair (nI (x / 12)) (nI (x % 12)) md mi go fl lk st fr to rn te fy fn fd th (nI n)) else 0)) i) (nI i) = LX11_two_48 md mi go fl lk st fr to rn te fy fn fd th (nI n) (nI (srN th lk)) ko N (sx 0 (fun x => if x % 12 ≤ x / 12 then 0 else (if (srN th lk).testBit (x / 12) = true ∧ (srN th lk).testBit (x % 12) = true then gd (f_X11_pair (nI (x / 12)) (nI (x % 12)) md mi go fl lk st fr to rn te fy fn fd th (nI n)) else 0)) (i + 1)) (nI (i + 1))
    have e1 : nI i / 12 = nI (i / 12) := pk_div (d := 12) (by omega) (by decide) (by decide)
    have e2 : nI i - nI i / 12 * 12 = nI (i % 12) := pk_rem (d := 12) (by omega) (by decide) (by decide)
    rw [LX11_two_48_s, if_neg (show ¬ (144 : Int32) ≤ nI i from nI_ge (a := i) (b := 144) hi (by decide)), nz_ok (by decide), lt_eq, nz_ok (by decide), lt_eq, e2, e1, sx]
    by_cases h : i % 12 ≤ i / 12
    · rw [if_pos (nI_le h (by omega))]
      simp only [if_pos h]
      rw [sb', lt_eq, lt_eq, nI_1]
    · rw [if_neg (nI_ge (by omega) (by omega)), has11, sb', hb_nI (by omega) (by omega)]
      simp only [if_neg h]
      by_cases h2 : (srN th lk).testBit (i / 12) = true
      · simp only [if_pos h2, if_neg one_ne]
        rw [has11, sb', hb_nI (by omega) (by omega)]
        by_cases h3 : (srN th lk).testBit (i % 12) = true
        · obtain ⟨a1, a2, _⟩ := sr_bit h2
          obtain ⟨a3, a4, _⟩ := sr_bit h3
          obtain ⟨b, hb, _, h4, _⟩ := t_2 hT hm hfr hto hte hfy hfn hW hF hlk a1 a2 a3 a4
          simp only [if_pos h3, if_neg one_ne]
          rw [h4, sb', sb', lt_eq, lt_eq, nI_1, if_pos ⟨h2, h3⟩]
          rfl
        · simp only [if_neg h3]
          rw [if_pos trivial, sb', lt_eq, lt_eq, nI_1, if_neg (fun q => h3 q.2)]
      · simp only [if_neg h2]
        rw [if_pos trivial, sb', lt_eq, lt_eq, nI_1, if_neg (fun q => h2 q.1)]
end
