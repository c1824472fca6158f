/-! signs, tokens, words -/
def so (c : Int32) : Nat := if 97 ≤ c ∧ c ≤ 122 then 1 else if 48 ≤ c ∧ c ≤ 57 then 2 else 0
theorem tI : (97 : Int32).toInt = 97 ∧ (122 : Int32).toInt = 122 ∧ (48 : Int32).toInt = 48 ∧ (57 : Int32).toInt = 57 := by decide
theorem sort11 (c : Int32) : f_X11_sort c = some (nI (so c)) := by
  unfold f_X11_sort so
  obtain ⟨h1, h2, h3, h4⟩ := tI
  simp only [ilt, ile, h1, h2, h3, h4]
  generalize c.toInt = z
  (repeat' split) <;> first | rfl | (exfalso; omega)
theorem so_1 (c : Int32) : so c = 1 ↔ ¬ c < 97 ∧ ¬ 122 < c := by
  unfold so
  obtain ⟨h1, h2, h3, h4⟩ := tI
  simp only [ilt, ile, h1, h2, h3, h4]
  generalize c.toInt = z
  (repeat' split) <;> constructor <;> intro h <;> omega
theorem so_2 (c : Int32) : so c = 2 ↔ ¬ c < 48 ∧ ¬ 57 < c := by
  unfold so
  obtain ⟨h1, h2, h3, h4⟩ := tI
  simp only [ilt, ile, h1, h2, h3, h4]
  generalize c.toInt = z
  (repeat' split) <;> constructor <;> intro h <;> omega
theorem so_le (c : Int32) : so c ≤ 2 := by
  unfold so
  (repeat' split) <;> omega
theorem let10 (c : Int32) : f_X5_isLetter c = some (if so c = 1 then 1 else 0) := by
  unfold f_X5_isLetter
  by_cases h : so c = 1
  · obtain ⟨h1, h2⟩ := (so_1 c).mp h
    rw [if_pos h, if_neg h1, if_neg h2]
  · rw [if_neg h]
    by_cases h1 : c < 97
    · rw [if_pos h1]
    · rw [if_neg h1]
      by_cases h2 : 122 < c
      · rw [if_pos h2]
      · exact absurd ((so_1 c).mpr ⟨h1, h2⟩) h
theorem dig10 (c : Int32) : f_X5_isDigit c = some (if so c = 2 then 1 else 0) := by
  unfold f_X5_isDigit
  by_cases h : so c = 2
  · obtain ⟨h1, h2⟩ := (so_2 c).mp h
    rw [if_pos h, if_neg h1, if_neg h2]
  · rw [if_neg h]
    by_cases h1 : c < 48
    · rw [if_pos h1]
    · rw [if_neg h1]
      by_cases h2 : 57 < c
      · rw [if_pos h2]
      · exact absurd ((so_2 c).mpr ⟨h1, h2⟩) h
section
variable {len : Nat} {b : Nat → Int32}
theorem tokA (hl : len ≤ 200) : ∀ d e, e + d = len → ∃ s, e ≤ s ∧ s ≤ len ∧ ∀ N1 N2 (ko1 : Int32 → Option (Int32 × Int32)) (ko2 : Int32 → Option (Int32 × Int32 × Int32)), d < N1 → d < N2 → LX5_nextToken_5 (nI len) b ko1 N1 (nI e) = ko1 (nI s) ∧ LX11_token_0 b (nI len) ko2 N2 (nI e) = ko2 (nI s) := by
  intro d
  induction d with
  | zero =>
    intro e he
    refine ⟨e, Nat.le_refl _, by omega, fun N1 N2 ko1 ko2 h1 h2 => ?_⟩
    obtain ⟨n1, rfl⟩ : ∃ n, N1 = n + 1 := ⟨N1 - 1, by omega⟩
    obtain ⟨n2, rfl⟩ : ∃ n, N2 = n + 1 := ⟨N2 - 1, by omega⟩
    rw [LX5_nextToken_5_s, LX11_token_0_s, if_pos (nI_le (by omega) (by omega)), if_pos (nI_le (by omega) (by omega))]
    exact ⟨rfl, rfl⟩
  | succ d ih =>
    intro e he
    by_cases q : b e = 32
    · obtain ⟨s, h1, h2, h3⟩ := ih (e + 1) (by omega)
      refine ⟨s, by omega, h2, fun N1 N2 ko1 ko2 g1 g2 => ?_⟩
      obtain ⟨n1, rfl⟩ : ∃ n, N1 = n + 1 := ⟨N1 - 1, by omega⟩
      obtain ⟨n2, rfl⟩ : ∃ n, N2 = n + 1 := ⟨N2 - 1, by omega⟩
      rw [LX5_nextToken_5_s, LX11_token_0_s, if_neg (nI_ge (by omega) (by omega)), if_neg (nI_ge (by omega) (by omega)), ri_nI (by omega) (by decide), ri_nI (by omega) (by decide), if_pos q, if_pos q, lt_eq, lt_eq, nI_1]
      exact h3 n1 n2 ko1 ko2 (by omega) (by omega)
    · refine ⟨e, Nat.le_refl _, by omega, fun N1 N2 ko1 ko2 h1 h2 => ?_⟩
      obtain ⟨n1, rfl⟩ : ∃ n, N1 = n + 1 := ⟨N1 - 1, by omega⟩
      obtain ⟨n2, rfl⟩ : ∃ n, N2 = n + 1 := ⟨N2 - 1, by omega⟩
      rw [LX5_nextToken_5_s, LX11_token_0_s, if_neg (nI_ge (by omega) (by omega)), if_neg (nI_ge (by omega) (by omega)), ri_nI (by omega) (by decide), ri_nI (by omega) (by decide), if_neg q, if_neg q]
      exact ⟨rfl, rfl⟩
theorem tokB (hl : len ≤ 200) {s : Nat} (hs : s < len) : ∀ d i, i + d = len → s < i → (∀ x, s ≤ x → x < i → so (b x) = so (b s)) → (so (b s) = 0 → i = s + 1) → ∃ t, i ≤ t ∧ t ≤ len ∧ (∀ x, s ≤ x → x < t → so (b x) = so (b s)) ∧ (so (b s) = 0 → t = s + 1) ∧ ∀ N1 N2 (ko1 : Int32 → Option (Int32 × Int32)) (ko2 : Int32 → Option (Int32 × Int32 × Int32)), d < N1 → d < N2 → LX5_nextToken_66 (nI len) b (if so (b s) = 1 then 1 else 0) (if so (b s) = 2 then 1 else 0) ko1 N1 (nI i) = ko1 (nI t) ∧ LX11_token_71 b (nI len) (nI s) ko2 N2 (nI i) = ko2 (nI t) := by
  intro d
  induction d with
  | zero =>
    intro i hi hsi h1 h2
    refine ⟨i, Nat.le_refl _, by omega, h1, h2, fun N1 N2 ko1 ko2 g1 g2 => ?_⟩
    obtain ⟨n1, rfl⟩ : ∃ n, N1 = n + 1 := ⟨N1 - 1, by omega⟩
    obtain ⟨n2, rfl⟩ : ∃ n, N2 = n + 1 := ⟨N2 - 1, by omega⟩
    rw [LX5_nextToken_66_s, LX11_token_71_s, if_pos (nI_le (by omega) (by omega)), if_pos (nI_le (by omega) (by omega))]
    exact ⟨rfl, rfl⟩
  | succ d ih =>
    intro i hi hsi h1 h2
    have l1 := so_le (b s)
    have l2 := so_le (b i)
    by_cases q : so (b s) ≠ 0 ∧ so (b i) = so (b s)
    · obtain ⟨t, c1, c2, c3, c4, c5⟩ := ih (i + 1) (by omega) (by omega) (fun x hx1 hx2 => by
        by_cases w : x = i
        · subst w; exact q.2
        · exact h1 x hx1 (by omega)) (fun w => absurd w q.1)
      refine ⟨t, by omega, c2, c3, c4, fun N1 N2 ko1 ko2 g1 g2 => ?_⟩
      obtain ⟨n1, rfl⟩ : ∃ n, N1 = n + 1 := ⟨N1 - 1, by omega⟩
      obtain ⟨n2, rfl⟩ : ∃ n, N2 = n + 1 := ⟨N2 - 1, by omega⟩
      obtain ⟨c6, c7⟩ := c5 n1 n2 ko1 ko2 (by omega) (by omega)
      constructor
      · rw [← c6, LX5_nextToken_66_s, if_neg (nI_ge (by omega) (by omega))]
        simp only [ri_nI (show i < 200 by omega) (show (200 : Nat) < 2 ^ 31 by decide), let10, dig10, sb', q.2, lt_eq, nI_1]
        have : so (b s) = 1 ∨ so (b s) = 2 := by omega
        rcases this with w | w <;> rw [w] <;> rfl
      · rw [← c7, LX11_token_71_s, if_neg (nI_ge (by omega) (by omega)), ri_nI (by omega) (by decide), sort11, sb', if_neg (nI_nle (by omega) (by omega)), ri_nI (by omega) (by decide), sort11, sb', ri_nI (by omega) (by decide), sort11, sb', q.2, if_pos rfl, lt_eq, nI_1]
    · refine ⟨i, Nat.le_refl _, by omega, h1, h2, fun N1 N2 ko1 ko2 g1 g2 => ?_⟩
      obtain ⟨n1, rfl⟩ : ∃ n, N1 = n + 1 := ⟨N1 - 1, by omega⟩
      obtain ⟨n2, rfl⟩ : ∃ n, N2 = n + 1 := ⟨N2 - 1, by omega⟩
      constructor
      · rw [LX5_nextToken_66_s, if_neg (nI_ge (by omega) (by omega))]
        simp only [ri_nI (show i < 200 by omega) (show (200 : Nat) < 2 ^ 31 by decide), let10, dig10, sb', lt_eq, nI_1]
        have : so (b s) = 0 ∨ so (b s) = 1 ∨ so (b s) = 2 := by omega
        rcases this with w | w | w
        · rw [w]; rfl
        · have w2 : ¬ so (b i) = 1 := fun z => q ⟨by omega, by omega⟩
          rw [w, if_neg w2]; rfl
        · have w2 : ¬ so (b i) = 2 := fun z => q ⟨by omega, by omega⟩
          rw [w, if_neg w2]; rfl
      · rw [LX11_token_71_s, if_neg (nI_ge (by omega) (by omega)), ri_nI (by omega) (by decide), sort11, sb']
        by_cases w : so (b s) = 0
        · rw [w, if_pos (by decide)]
        · rw [if_neg (nI_nle (by omega) (by omega)), ri_nI (by omega) (by decide), sort11, sb', ri_nI (by omega) (by decide), sort11, sb', if_neg (fun z => q ⟨w, (nI_eq (by omega) (by omega)).mp z⟩)]
/-- the token that is read from e on -/
def Tk (len : Nat) (b : Nat → Int32) (e s t : Nat) : Prop := e ≤ s ∧ s ≤ t ∧ t ≤ len ∧ (s < len → s < t ∧ (∀ x, s ≤ x → x < t → so (b x) = so (b s)) ∧ (so (b s) = 0 → t = s + 1)) ∧ (∀ ts, f_X5_nextToken (nI len) ts (nI e) b = some (nI s, nI t)) ∧ ∀ pl en, f_X11_token b (nI len) (nI e) pl en = some (nI t, nI s, nI t)
theorem tok2 (hl : len ≤ 200) {e : Nat} (he : e ≤ len) : ∃ s t, Tk len b e s t := by
  obtain ⟨s, h1, h2, h3⟩ := tokA (b := b) hl (len - e) e (by omega)
  by_cases q : s = len
  · refine ⟨s, s, h1, Nat.le_refl _, by omega, fun w => by omega, fun ts => ?_, fun pl en => ?_⟩
    · unfold f_X5_nextToken
      refine ((h3 FU FU _ (fun _ => none) (fu_lt (by omega)) (fu_lt (by omega))).1).trans ?_
      rw [if_pos (nI_le (by omega) (by omega))]
    · unfold f_X11_token
      refine ((h3 FU FU (fun _ => none) _ (fu_lt (by omega)) (fu_lt (by omega))).2).trans ?_
      rw [if_pos (nI_le (by omega) (by omega)), sb', lt_eq, Int32.add_zero, fu_s, LX11_token_71_s, if_pos (nI_le (by omega) (by omega))]
  · obtain ⟨t, c1, c2, c3, c4, c5⟩ := tokB (b := b) hl (s := s) (by omega) (len - (s + 1)) (s + 1) (by omega) (by omega) (fun x hx1 hx2 => by rw [show x = s by omega]) (fun _ => rfl)
    refine ⟨s, t, h1, by omega, c2, fun _ => ⟨by omega, c3, c4⟩, fun ts => ?_, fun pl en => ?_⟩
    · unfold f_X5_nextToken
      refine ((h3 FU FU _ (fun _ => none) (fu_lt (by omega)) (fu_lt (by omega))).1).trans ?_
      rw [if_neg (nI_ge (by omega) (by omega)), ri_nI (by omega) (by decide), let10, sb', ri_nI (by omega) (by decide), dig10, sb', lt_eq, nI_1]
      exact (c5 FU FU _ (fun _ => none) (fu_lt (by omega)) (fu_lt (by omega))).1
    · unfold f_X11_token
      refine ((h3 FU FU (fun _ => none) _ (fu_lt (by omega)) (fu_lt (by omega))).2).trans ?_
      rw [if_neg (nI_ge (by omega) (by omega)), sb', lt_eq, nI_1]
      exact (c5 FU FU (fun _ => none) _ (fu_lt (by omega)) (fu_lt (by omega))).2
theorem word2 (k : Nat) (W : Int32) (L : Nat) (hL : lenS.getD k 0 = L) (hL2 : L ≤ 6) (hW : ∀ i, i < L → schF k i = 96 + ((W >>> ((5 * nI i) &&& 31)) &&& 31)) {s t : Nat} (hst : s ≤ t) (ht : t ≤ 200) : ∃ r : Int32, (r = 0 ∨ r = 1) ∧ f_X5_tokenIs k (nI s) (nI t) b = some r ∧ f_X11_isWord W (nI L) b (nI s) (nI t) = some r := by
  unfold f_X5_tokenIs f_X11_isWord slen
  rw [hL, pk_sub hst]
  have z11 : ∀ (N : Nat) (i : Int32), LX11_isWord_22 W (nI L) b (nI s) (fun x4 _ => bq (x4) <| some (x4)) (N + 1) 0 i = some 0 := by
    intro N i
    rw [LX11_isWord_22_s, if_pos rfl, bq_ok (Or.inl rfl)]
  by_cases h : t - s = L
  · rw [h, if_pos rfl, if_pos rfl, sb']
    have key : ∀ d i, i + d = L → ∀ N1 N2, d < N1 → d + 1 < N2 → ∃ r : Int32, (r = 0 ∨ r = 1) ∧ LX5_tokenIs_20 k (nI s) b (fun _ => some 1) N1 (nI i) = some r ∧ LX11_isWord_22 W (nI L) b (nI s) (fun x4 _ => bq (x4) <| some (x4)) N2 1 (nI i) = some r := by
      intro d
      induction d with
      | zero =>
        intro i hi N1 N2 g1 g2
        obtain ⟨n1, rfl⟩ : ∃ n, N1 = n + 1 := ⟨N1 - 1, by omega⟩
        obtain ⟨n2, rfl⟩ : ∃ n, N2 = n + 1 := ⟨N2 - 1, by omega⟩
        refine ⟨1, Or.inr rfl, ?_, ?_⟩
        · rw [LX5_tokenIs_20_s, slen, hL, if_pos (nI_le (by omega) (by omega))]
        · rw [LX11_isWord_22_s, if_neg one_ne, if_pos (nI_le (by omega) (by omega)), bq_ok (Or.inr rfl)]
      | succ d ih =>
        intro i hi N1 N2 g1 g2
        obtain ⟨n1, rfl⟩ : ∃ n, N1 = n + 1 := ⟨N1 - 1, by omega⟩
        obtain ⟨n2, rfl⟩ : ∃ n, N2 = n + 1 := ⟨N2 - 1, by omega⟩
        rw [LX5_tokenIs_20_s, slen, hL, if_neg (nI_ge (by omega) (by omega)), nI_add, ri_nI (by omega) (by decide), ri_nI (by omega) (by omega), hW i (by omega), LX11_isWord_22_s, if_neg one_ne, if_neg (nI_ge (by omega) (by omega)), nI_add, ri_nI (by omega) (by decide), nI_1]
        by_cases q : b (s + i) = 96 + ((W >>> ((5 * nI i) &&& 31)) &&& 31)
        · rw [if_pos q, if_pos q, sb', lt_eq, lt_eq]
          exact ih (i + 1) (by omega) n1 n2 (by omega) (by omega)
        · obtain ⟨n3, rfl⟩ : ∃ n, n2 = n + 1 := ⟨n2 - 1, by omega⟩
          rw [if_neg q, if_neg q, sb', lt_eq]
          exact ⟨0, Or.inl rfl, rfl, z11 _ _⟩
    exact key L 0 (by omega) FU FU (fu_lt (by omega)) (fu_lt (by omega))
  · have h' : ¬ nI (t - s) = nI L := fun w => h ((nI_eq (by omega) (by omega)).mp w)
    rw [if_neg h', if_neg h', sb', fu_s]
    exact ⟨0, Or.inl rfl, rfl, z11 _ _⟩
theorem widx_nI : ∀ k, k < 8 → widx (nI k) = k := by decide
theorem kstep {s t k : Nat} (hk : k < 8) (N : Nat) : LX5_kindOfToken_2 (nI s) (nI t) b (fun _ => some (-1)) (N + 1) (nI k) = (f_X5_tokenIs k (nI s) (nI t) b).bind fun q4 => if q4 = 0 then LX5_kindOfToken_2 (nI s) (nI t) b (fun _ => some (-1)) N (nI (k + 1)) else some (nI k) := by
  rw [LX5_kindOfToken_2_s, if_neg (show ¬ (8 : Int32) ≤ nI k from nI_ge (a := k) (b := 8) hk (by decide)), widx_nI k hk]
  simp only [lt_eq, nI_1]
end
