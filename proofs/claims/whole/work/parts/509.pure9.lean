/-! thoughts -/
theorem lgz {a : Nat} (h : a < 2 ^ 63) : lg_cmp (lN a) (0 : Int64) = 0 ↔ a = 0 := by
  unfold lg_cmp
  constructor
  · intro q
    apply Decidable.byContradiction
    intro ha
    have h1 : lN a > 0 := (pk_lLT (a := 0) (by decide) h).mpr (by omega)
    rw [if_pos h1] at q
    exact absurd q (by decide)
  · rintro rfl
    decide
theorem lN_0 : lN 0 = 0 := rfl
/-- one cup that was found -/
def Q1 (o1 o2 : Option Nat) (P0 P1 : Int32) (rn te fy fn wg fd : Nat → Int32) (sL sT : Nat → Nat → Int32) (sF sU fC fS fM fT fY : Nat → Int32) (md mi go fl st fr to : Nat → Int32) (th : Int32) (i : Nat) : Prop := ∃ (r z : Int32) (q : Nat), q ≤ 10 ∧ f_X8_shouldSayYes (67 + i) o1 o2 rn te wg sL sT sF sU fC fS fM fT = some r ∧ f_X6_tenthsToSay (67 + i) r fy fn fC fY = some (nI q) ∧ f_X11_shouldBy P0 P1 (-1) (fd (5 * i)) (fd (5 * i + 1)) (fd (5 * i + 2)) (fd (5 * i + 3)) md mi go fl st fr to rn te th = some r ∧ f_X11_yes (fd (5 * i)) r fy fn = some z ∧ (if fd (5 * i + 4) = 1 then some (Int32.toInt64 z) else some (Int32.toInt64 (10 - z))) = some (lN q)
theorem ten_yes {fy fn fC fY : Nat → Int32} (hfy : Bd fy 4 9) (hfn : Bd fn 4 9) {p c : Nat} (hc : c < 4) (eC : fC p = nI c) {r y : Int32} (hy : y = 0 ∨ y = 1) (eY : fY p = y) : ∃ (z : Int32) (q : Nat), q ≤ 10 ∧ f_X6_tenthsToSay p r fy fn fC fY = some (nI q) ∧ f_X11_yes (nI c) r fy fn = some z ∧ (if y = 1 then some (Int32.toInt64 z) else some (Int32.toInt64 (10 - z))) = some (lN q) := by
  unfold f_X6_tenthsToSay f_X11_yes
  rw [eC, eY, ri_nI hc (by decide), ri_nI hc (by decide), ib]
  obtain ⟨a, ha, ea⟩ := hfy c hc
  obtain ⟨b, hb, eb⟩ := hfn c hc
  have key : ∀ w : Nat, w ≤ 10 → ∃ (z : Int32) (q : Nat), q ≤ 10 ∧ (if y = 0 then some (10 - nI w) else some (nI w)) = some (nI q) ∧ some (nI w) = some z ∧ (if y = 1 then some (Int32.toInt64 z) else some (Int32.toInt64 (10 - z))) = some (lN q) := by
    intro w hw
    have e10 : (10 : Int32) - nI w = nI (10 - w) := pk_sub (a := 10) hw
    rcases hy with rfl | rfl
    · refine ⟨nI w, 10 - w, by omega, ?_, rfl, ?_⟩
      · rw [if_pos rfl, e10]
      · rw [if_neg (by decide), e10, nI_l (by omega)]
    · refine ⟨nI w, w, hw, ?_, rfl, ?_⟩
      · rw [if_neg (by decide)]
      · rw [if_pos rfl, nI_l (by omega)]
  by_cases hr : r = 0
  · simp only [if_pos hr]
    rw [ea]
    exact key a (by omega)
  · simp only [if_neg hr]
    rw [eb, show (10 : Int32) - nI b = nI (10 - b) from pk_sub (a := 10) (by omega)]
    exact key (10 - b) (by omega)
section
variable {th bl : Int32} {md mi go fl lk st fr to rn te fy fn fd wg : Nat → Int32} {sL sT : Nat → Nat → Int32} {sF sU fC fS fM fT fY : Nat → Int32} {n : Nat}
theorem q_0 (hT : Tree th md) (hm : Bd mi 12 99) (hfr : Bd fr 12 23) (hto : Bd to 12 23) (hte : ∀ c, c < 4 → ∃ k, 1 ≤ k ∧ k ≤ 9999 ∧ te c = nI k) (hfy : Bd fy 4 9) (hfn : Bd fn 4 9) (hW : Wat th md mi go fl st fr to wg sL sT sF sU) (hF : Fnd fC fS fM fT fY fd n) : ∀ i, i < n → Q1 none none (-1) (-1) rn te fy fn wg fd sL sT sF sU fC fS fM fT fY md mi go fl st fr to th i := by
  intro i hi
  obtain ⟨c, s, m, k, y, hc, hs, hs0, hk, hmk, hy, a1, a2, a3, a4, a5, b1, b2, b3, b4, b5⟩ := hF.2 i hi
  obtain ⟨x1, x2⟩ := sh0 (mi := mi) (go := go) (st := st) (fr := fr) (to := to) (rn := rn) (te := te) (sL := sL) (sT := sT) (sF := sF) (sU := sU) (fC := fC) (fS := fS) (fM := fM) (fT := fT) (p := 67 + i) hT hW.1 (hte c hc) hs hs0 hk hmk hc
  obtain ⟨z, q, hq, y1, y2, y3⟩ := ten_yes hfy hfn hc a1 (r := 0) hy a5
  exact ⟨0, z, q, hq, x1, y1, by rw [b1, b2, b3, b4]; exact x2, by rw [b1]; exact y2, by rw [b5]; exact y3⟩
theorem q_1 (hT : Tree th md) (hm : Bd mi 12 99) (hfr : Bd fr 12 23) (hto : Bd to 12 23) (hte : ∀ c, c < 4 → ∃ k, 1 ≤ k ∧ k ≤ 9999 ∧ te c = nI k) (hfy : Bd fy 4 9) (hfn : Bd fn 4 9) (hW : Wat th md mi go fl st fr to wg sL sT sF sU) (hF : Fnd fC fS fM fT fY fd n) {v : Nat} (hv : v < 12) (hbv : hb th v = true) : ∀ i, i < n → Q1 (some (24 + 3 * v)) none (nI v) (-1) rn te fy fn wg fd sL sT sF sU fC fS fM fT fY md mi go fl st fr to th i := by
  intro i hi
  obtain ⟨c, s, m, k, y, hc, hs, hs0, hk, hmk, hy, a1, a2, a3, a4, a5, b1, b2, b3, b4, b5⟩ := hF.2 i hi
  obtain ⟨r, _, x1, x2⟩ := sh1 (rn := rn) (te := te) hT hm hfr hto hW hv hbv hs hs0 hk hmk hc a1 a2 a3 a4
  obtain ⟨z, q, hq, y1, y2, y3⟩ := ten_yes hfy hfn hc a1 (r := r) hy a5
  exact ⟨r, z, q, hq, x1, y1, by rw [b1, b2, b3, b4]; exact x2, by rw [b1]; exact y2, by rw [b5]; exact y3⟩
theorem q_2 (hT : Tree th md) (hm : Bd mi 12 99) (hfr : Bd fr 12 23) (hto : Bd to 12 23) (hte : ∀ c, c < 4 → ∃ k, 1 ≤ k ∧ k ≤ 9999 ∧ te c = nI k) (hfy : Bd fy 4 9) (hfn : Bd fn 4 9) (hW : Wat th md mi go fl st fr to wg sL sT sF sU) (hF : Fnd fC fS fM fT fY fd n) {v u : Nat} (hv : v < 12) (hbv : hb th v = true) (hu : u < 12) (hbu : hb th u = true) : ∀ i, i < n → Q1 (some (24 + 3 * v)) (some (24 + 3 * u)) (nI v) (nI u) rn te fy fn wg fd sL sT sF sU fC fS fM fT fY md mi go fl st fr to th i := by
  intro i hi
  obtain ⟨c, s, m, k, y, hc, hs, hs0, hk, hmk, hy, a1, a2, a3, a4, a5, b1, b2, b3, b4, b5⟩ := hF.2 i hi
  obtain ⟨r, _, x1, x2⟩ := sh2 (rn := rn) (te := te) hT hm hfr hto hW hv hbv hu hbu hs hs0 hk hmk hc a1 a2 a3 a4
  obtain ⟨z, q, hq, y1, y2, y3⟩ := ten_yes hfy hfn hc a1 (r := r) hy a5
  exact ⟨r, z, q, hq, x1, y1, by rw [b1, b2, b3, b4]; exact x2, by rw [b1]; exact y2, by rw [b5]; exact y3⟩
theorem q_3 (hT : Tree th md) (hm : Bd mi 12 99) (hfr : Bd fr 12 23) (hto : Bd to 12 23) (hte : ∀ c, c < 4 → ∃ k, 1 ≤ k ∧ k ≤ 9999 ∧ te c = nI k) (hfy : Bd fy 4 9) (hfn : Bd fn 4 9) (hW : Wat th md mi go fl st fr to wg sL sT sF sU) (hF : Fnd fC fS fM fT fY fd n) {v u : Nat} (hv : v < 12) (hbv : hb th v = true) (hu : u < 12) (hbu : hb th u = true) : ∀ i, i < n → Q1 (some (24 + 3 * v)) (some (24 + 3 * u)) (nI u) (nI v) rn te fy fn wg fd sL sT sF sU fC fS fM fT fY md mi go fl st fr to th i := by
  intro i hi
  obtain ⟨c, s, m, k, y, hc, hs, hs0, hk, hmk, hy, a1, a2, a3, a4, a5, b1, b2, b3, b4, b5⟩ := hF.2 i hi
  obtain ⟨r, _, x1, x2⟩ := sh3 (rn := rn) (te := te) hT hm hfr hto hW hv hbv hu hbu hs hs0 hk hmk hc a1 a2 a3 a4
  obtain ⟨z, q, hq, y1, y2, y3⟩ := ten_yes hfy hfn hc a1 (r := r) hy a5
  exact ⟨r, z, q, hq, x1, y1, by rw [b1, b2, b3, b4]; exact x2, by rw [b1]; exact y2, by rw [b5]; exact y3⟩
/-- the product over all that was found -/
theorem tho {o1 o2 : Option Nat} {P0 P1 : Int32} (hn : n ≤ 10) (hq : ∀ i, i < n → Q1 o1 o2 P0 P1 rn te fy fn wg fd sL sT sF sU fC fS fM fT fY md mi go fl st fr to th i) : ∀ (d i : Nat), i + d = n → ∃ G : Nat, G ≤ 10 ^ d ∧ ∀ (a N1 N2 : Nat), a * 10 ^ d < 2 ^ 63 → d < N1 → d < N2 → LX6_thoughtBy_6 o1 o2 rn te fy fn wg (nI n) sL sT sF sU fC fS fM fT fY (fun x _ => some x) N1 (lN a) (nI i) = some (lN (a * G)) ∧ LX11_thought_6 P0 P1 md mi go fl st fr to rn te fy fn fd th (nI n) (fun x _ => some x) N2 (lN a) (nI (5 * i)) = some (lN (a * G)) := by
  intro d
  induction d with
  | zero =>
    intro i hi
    refine ⟨1, Nat.le_refl _, fun a N1 N2 _ h1 h2 => ?_⟩
    obtain ⟨m1, rfl⟩ : ∃ m, N1 = m + 1 := ⟨N1 - 1, by omega⟩
    obtain ⟨m2, rfl⟩ : ∃ m, N2 = m + 1 := ⟨N2 - 1, by omega⟩
    have : i = n := by omega
    subst this
    rw [LX6_thoughtBy_6_s, if_pos (nI_le (Nat.le_refl _) (by omega)), LX11_thought_6_s, show (5 : Int32) * nI i = nI (5 * i) from pk_mul 5 i, if_pos (nI_le (Nat.le_refl _) (by omega)), Nat.mul_one]
    exact ⟨rfl, rfl⟩
  | succ d ih =>
    intro i hi
    obtain ⟨G, hG, hA⟩ := ih (i + 1) (by omega)
    obtain ⟨r, z, q, hq10, e1, e2, e3, e4, e5⟩ := hq i (by omega)
    refine ⟨q * G, ?_, fun a N1 N2 ha h1 h2 => ?_⟩
    · rw [Nat.pow_succ, Nat.mul_comm]
      exact Nat.mul_le_mul hG hq10
    · obtain ⟨m1, rfl⟩ : ∃ m, N1 = m + 1 := ⟨N1 - 1, by omega⟩
      obtain ⟨m2, rfl⟩ : ∃ m, N2 = m + 1 := ⟨N2 - 1, by omega⟩
      have haq : a * q * 10 ^ d < 2 ^ 63 := by
        refine Nat.lt_of_le_of_lt ?_ ha
        rw [Nat.pow_succ, Nat.mul_assoc, Nat.mul_comm (10 ^ d) 10]
        exact Nat.mul_le_mul_left a (Nat.mul_le_mul_right (10 ^ d) hq10)
      have ha0 : a < 2 ^ 63 := by
        refine Nat.lt_of_le_of_lt ?_ ha
        exact Nat.le_mul_of_pos_right a (Nat.pow_pos (by decide))
      obtain ⟨x1, x2⟩ := hA (a * q) m1 m2 haq (by omega) (by omega)
      constructor
      · rw [LX6_thoughtBy_6_s, if_neg (nI_ge (by omega) (by omega))]
        by_cases hz : a = 0
        · subst hz
          rw [if_pos (by decide), Nat.zero_mul]
        · rw [if_neg (fun w => hz ((lgz ha0).mp w)), ix_nI (by omega) (by decide), e1, sb', e2, sb', lt_eq, lt_eq, nI_1, nI_l (by omega), lN_mul, x1, Nat.mul_assoc]
      · have f1 : nI (5 * i) + 1 = nI (5 * i + 1) := nI_add _ 1
        have f2 : nI (5 * i) + 2 = nI (5 * i + 2) := nI_add _ 2
        have f3 : nI (5 * i) + 3 = nI (5 * i + 3) := nI_add _ 3
        have f4 : nI (5 * i) + 4 = nI (5 * i + 4) := nI_add _ 4
        have f5 : nI (5 * i) + 5 = nI (5 * (i + 1)) := nI_add _ 5
        rw [LX11_thought_6_s, show (5 : Int32) * nI n = nI (5 * n) from pk_mul 5 n, if_neg (nI_ge (by omega) (by omega)), f1, f2, f3, f4, f5, ri_nI (by omega) (by decide), ri_nI (by omega) (by decide), ri_nI (by omega) (by decide), ri_nI (by omega) (by decide), ri_nI (by omega) (by decide), e3, sb', e4, sb', ri_nI (by omega) (by decide), e5, sb', lt_eq, lt_eq, lN_mul, x2, Nat.mul_assoc]
theorem tho2 {o1 o2 : Option Nat} {P0 P1 : Int32} (hn : n ≤ 10) (hq : ∀ i, i < n → Q1 o1 o2 P0 P1 rn te fy fn wg fd sL sT sF sU fC fS fM fT fY md mi go fl st fr to th i) {a : Nat} (ha : a ≤ 9801) : ∃ b : Nat, b ≤ a * 10000000000 ∧ f_X6_thoughtBy (lN a) o1 o2 rn te fy fn wg (nI n) sL sT sF sU fC fS fM fT fY = some (lN b) ∧ f_X11_thought (lN a) P0 P1 md mi go fl st fr to rn te fy fn fd th (nI n) = some (lN b) := by
  obtain ⟨G, hG, hA⟩ := tho hn hq n 0 (by omega)
  have hp : 10 ^ n ≤ 10 ^ 10 := Nat.pow_le_pow_right (by decide) hn
  have hp2 : (10 : Nat) ^ 10 = 10000000000 := by decide
  have h1 : a * 10 ^ n ≤ 9801 * 10000000000 := by rw [← hp2]; exact Nat.mul_le_mul ha hp
  obtain ⟨x1, x2⟩ := hA a FU FU (by omega) (fu_lt (by omega)) (fu_lt (by omega))
  refine ⟨a * G, Nat.mul_le_mul_left a (by omega), x1, x2⟩
end
