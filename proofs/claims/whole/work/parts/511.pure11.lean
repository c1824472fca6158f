/-! chance, worth, likeliest -/
theorem itp {S T R1 R2 : Type} (B : Nat) (I : Nat → S → T → Prop) (F : Nat → Nat → S → Option R1) (G : Nat → Nat → T → Option R2) (k1 : S → Option R1) (k2 : T → Option R2) (h0 : ∀ n s t, I B s t → F (n + 1) B s = k1 s ∧ G (n + 1) B t = k2 t) (h1 : ∀ n i s t, i < B → I i s t → ∃ s' t', I (i + 1) s' t' ∧ F (n + 1) i s = F n (i + 1) s' ∧ G (n + 1) i t = G n (i + 1) t') : ∀ n i s t, i ≤ B → B - i < n → I i s t → ∃ s' t', I B s' t' ∧ F n i s = k1 s' ∧ G n i t = k2 t' := by
  intro n
  induction n with
  | zero => intro i s t _ h; omega
  | succ n ih =>
    intro i s t hi hn hI
    by_cases h : i = B
    · subst h
      obtain ⟨a, b⟩ := h0 n s t hI
      exact ⟨s, t, hI, a, b⟩
    · obtain ⟨s1, t1, a, b, c⟩ := h1 n i s t (by omega) hI
      obtain ⟨s2, t2, d, e, f⟩ := ih (i + 1) s1 t1 (by omega) (by omega) a
      exact ⟨s2, t2, d, by rw [b, e], by rw [c, f]⟩
theorem lgle {a b : Nat} (ha : a < 2 ^ 63) (hb : b < 2 ^ 63) : lg_cmp (lN a) (lN b) ≤ 0 ↔ a ≤ b := by
  unfold lg_cmp
  by_cases h : b < a
  · have h1 : lN a > lN b := (pk_lLT hb ha).mpr h
    rw [if_pos h1]
    exact ⟨fun q => absurd q (by decide), fun q => by omega⟩
  · have h1 : ¬ lN a > lN b := fun q => h ((pk_lLT hb ha).mp q)
    rw [if_neg h1]
    refine ⟨fun _ => by omega, fun _ => ?_⟩
    split <;> decide
section
variable {th bl : Int32} {md mi go fl lk st fr to rn te fy fn fd wg : Nat → Int32} {sL sT : Nat → Nat → Int32} {sF sU fC fS fM fT fY : Nat → Int32} {n : Nat}
/-- promise 15 -/
theorem p_chance (hT : Tree th md) (hm : Bd mi 12 99) (hfr : Bd fr 12 23) (hto : Bd to 12 23) (hte : ∀ c, c < 4 → ∃ k, 1 ≤ k ∧ k ≤ 9999 ∧ te c = nI k) (hfy : Bd fy 4 9) (hfn : Bd fn 4 9) (hW : Wat th md mi go fl st fr to wg sL sT sF sU) (hF : Fnd fC fS fM fT fY fd n) (hlk : Bd lk 12 99) (hbl : ∃ k, k ≤ 99 ∧ bl = nI k) {no al : Int64} {one : Nat → Int64} {k1 : Int32} (hk : k1 = 0 ∨ k1 = 1 ∧ C1 th bl md mi go fl lk st fr to rn te fy fn fd n no al one) (p0 p1 : Int32) : ∃ (r no' al' : Int64) (k1' : Int32) (one' : Nat → Int64), f_X10_chance p0 p1 lk rn te fy fn th bl (nI (srN th lk)) wg no al k1 (nI n) one sL sT sF sU fC fS fM fT fY = some (r, no', al', k1', one') ∧ f_X11_chance p0 p1 md mi go fl lk st fr to rn te fy fn fd th bl (nI n) = some r ∧ (k1' = 0 ∨ k1' = 1 ∧ C1 th bl md mi go fl lk st fr to rn te fy fn fd n no' al' one') := by
  unfold f_X10_chance f_X11_chance
  obtain ⟨no', al', one', e, c1, c2, c3⟩ := one10 hT hm hfr hto hte hfy hfn hW hF hlk hbl hk
  obtain ⟨A, hA, eA⟩ := all_bd hT hm hfr hto hte hfy hfn hW hF hlk hbl
  have eal : al' = lN A := c3.trans eA
  obtain ⟨b0, hb0, _, h0⟩ := t_0 (lk := lk) hT hm hfr hto hte hfy hfn hW hF hlk hbl
  have eno : no' = lN b0 := by rw [c1, h0]; rfl
  have fin : k1 = 0 ∨ k1 = 1 ∧ C1 th bl md mi go fl lk st fr to rn te fy fn fd n no al one := hk
  have fin' : (1 : Int32) = 0 ∨ (1 : Int32) = 1 ∧ C1 th bl md mi go fl lk st fr to rn te fy fn fd n no' al' one' := Or.inr ⟨rfl, c1, c2, c3⟩
  rw [all11 hT hm hfr hto hte hfy hfn hW hF hlk hbl, eA, e]
  simp only [part10, part11, sb']
  rw [eal]
  by_cases hp : p0 = -1
  · simp only [if_pos hp]
    by_cases h1 : 0 ≤ p1 ∧ p1 ≤ 1
    · simp only [if_pos h1, if_neg one_ne]
      by_cases hz : A = 0
      · rw [if_pos ((lgz (by omega)).mpr hz), if_pos ((lgz (by omega)).mpr hz)]
        rw [eal] at fin'
        exact ⟨_, _, _, _, _, rfl, rfl, fin'⟩
      · rw [if_neg (fun q => hz ((lgz (by omega)).mp q)), if_neg (fun q => hz ((lgz (by omega)).mp q)), hp, h0, sb', sb', eno]
        obtain ⟨r, x1, x2⟩ := low2 (a := b0) (b := A) (by omega) (by omega) (by omega) p1
        rw [x1, x2, sb', sb']
        rw [eal, eno] at fin'
        exact ⟨_, _, _, _, _, rfl, rfl, fin'⟩
    · simp only [if_neg h1]
      exact ⟨_, _, _, _, _, rfl, rfl, fin⟩
  · simp only [if_neg hp]
    rcases isrc (th := th) (lk := lk) p0 with ⟨x1, x2⟩ | ⟨v, hv, rfl, hs, hbv, x1, x2⟩
    · rw [x1, x2, sb', sb', if_pos rfl, if_pos rfl]
      exact ⟨_, _, _, _, _, rfl, rfl, fin⟩
    · rw [x1, x2, sb', sb', if_neg one_ne, if_neg one_ne]
      by_cases h1 : 0 ≤ p1 ∧ p1 ≤ 1
      · simp only [if_pos h1, if_neg one_ne]
        by_cases hz : A = 0
        · rw [if_pos ((lgz (by omega)).mpr hz), if_pos ((lgz (by omega)).mpr hz)]
          rw [eal] at fin'
          exact ⟨_, _, _, _, _, rfl, rfl, fin'⟩
        · obtain ⟨b, hb, _, h3⟩ := t_1 (bl := bl) hT hm hfr hto hte hfy hfn hW hF hlk hbl hv hbv
          have eone : one' v = lN b := by
            rw [c2 v hv]
            simp only [if_pos hs]
            rw [h3]; rfl
          rw [if_neg (fun q => hz ((lgz (by omega)).mp q)), if_neg (fun q => hz ((lgz (by omega)).mp q)), h3, sb', rl_nI hv (by decide), sb', eone]
          obtain ⟨r, y1, y2⟩ := low2 (a := b) (b := A) (by omega) (by omega) (by omega) p1
          rw [y1, y2, sb', sb']
          rw [eal] at fin'
          exact ⟨_, _, _, _, _, rfl, rfl, fin'⟩
      · simp only [if_neg h1]
        exact ⟨_, _, _, _, _, rfl, rfl, fin⟩
/-- promise 18 -/
theorem p_likeliest (hT : Tree th md) (hm : Bd mi 12 99) (hfr : Bd fr 12 23) (hto : Bd to 12 23) (hte : ∀ c, c < 4 → ∃ k, 1 ≤ k ∧ k ≤ 9999 ∧ te c = nI k) (hfy : Bd fy 4 9) (hfn : Bd fn 4 9) (hW : Wat th md mi go fl st fr to wg sL sT sF sU) (hF : Fnd fC fS fM fT fY fd n) (hlk : Bd lk 12 99) (hbl : ∃ k, k ≤ 99 ∧ bl = nI k) {no al : Int64} {one : Nat → Int64} {k1 : Int32} (hk : k1 = 0 ∨ k1 = 1 ∧ C1 th bl md mi go fl lk st fr to rn te fy fn fd n no al one) : ∃ (r : Int32) (no' al' : Int64) (k1' : Int32) (one' : Nat → Int64), f_X10_likeliest lk rn te fy fn bl (nI (srN th lk)) wg no al k1 (nI n) one sL sT sF sU fC fS fM fT fY = some (r, no', al', k1', one') ∧ f_X11_likeliest md mi go fl lk st fr to rn te fy fn fd th bl (nI n) = some r ∧ (k1' = 0 ∨ k1' = 1 ∧ C1 th bl md mi go fl lk st fr to rn te fy fn fd n no' al' one') := by
  unfold f_X10_likeliest f_X11_likeliest f_X6_most
  obtain ⟨no', al', one', e, c1, c2, c3⟩ := one10 hT hm hfr hto hte hfy hfn hW hF hlk hbl hk
  obtain ⟨b0, hb0, _, h0⟩ := t_0 (lk := lk) hT hm hfr hto hte hfy hfn hW hF hlk hbl
  have eno : no' = lN b0 := by rw [c1, h0]; rfl
  have hl := sr_lt th lk
  rw [e, sb', src11, sb', lt_eq, lt_eq, h0, sb']
  dsimp only
  rw [eno]
  have key := its2 (S := Int32 × Int64) (T := Int32 × Int64) 12 (fun _ s t => s = t ∧ ∃ k, k ≤ 990000000000 ∧ s.2 = lN k) (fun N i s => LX6_most_10 one' (fun x5 _ _ => some x5) N s.1 s.2 (nI i)) (fun N i t => LX11_likeliest_16 md mi go fl lk st fr to rn te fy fn fd th bl (nI n) (nI (srN th lk)) (fun x7 _ _ => some x7) N t.1 t.2 (nI i)) (fun _ => True) (by
      rintro N s t ⟨rfl, _⟩
      refine ⟨s.1, trivial, ?_, ?_⟩
      · show LX6_most_10 one' _ (N + 1) s.1 s.2 (nI 12) = _
        rw [LX6_most_10_s, if_pos (by decide)]
      · show LX11_likeliest_16 md mi go fl lk st fr to rn te fy fn fd th bl (nI n) (nI (srN th lk)) _ (N + 1) s.1 s.2 (nI 12) = _
        rw [LX11_likeliest_16_s, if_pos (by decide)]) (by
      rintro N i s t hi ⟨rfl, k, hk1, hk2⟩
      refine Or.inr ?_
      have f1 : LX6_most_10 one' (fun x5 _ _ => some x5) (N + 1) s.1 s.2 (nI i) = LX6_most_10 one' (fun x5 _ _ => some x5) N (if lg_cmp (one' i) s.2 ≤ 0 then s.1 else nI i) (if lg_cmp (one' i) s.2 ≤ 0 then s.2 else one' i) (nI (i + 1)) := by
        rw [LX6_most_10_s, if_neg (lt12 hi), rl_nI hi (by decide), rl_nI hi (by decide)]
        by_cases q : lg_cmp (one' i) s.2 ≤ 0
        · rw [if_pos q, sb', lt_eq, nI_1, if_pos q, if_pos q]
        · rw [if_neg q, sb', lt_eq, nI_1, if_neg q, if_neg q]
      by_cases h : (srN th lk).testBit i = true
      · obtain ⟨b, hb, _, h3⟩ := t_1 (bl := bl) hT hm hfr hto hte hfy hfn hW hF hlk hbl hi (sr_bit h).2.1
        have eone : one' i = lN b := by
          rw [c2 i hi]
          simp only [if_pos h]
          rw [h3]; rfl
        rw [eone] at f1
        refine ⟨(if lg_cmp (lN b) s.2 ≤ 0 then s.1 else nI i, if lg_cmp (lN b) s.2 ≤ 0 then s.2 else lN b), _, ⟨rfl, ?_⟩, f1, ?_⟩
        · by_cases q : lg_cmp (lN b) s.2 ≤ 0
          · exact ⟨k, hk1, by simp only [if_pos q]; exact hk2⟩
          · exact ⟨b, hb, by simp only [if_neg q]⟩
        · show LX11_likeliest_16 md mi go fl lk st fr to rn te fy fn fd th bl (nI n) (nI (srN th lk)) _ (N + 1) s.1 s.2 (nI i) = LX11_likeliest_16 md mi go fl lk st fr to rn te fy fn fd th bl (nI n) (nI (srN th lk)) _ N (if lg_cmp (lN b) s.2 ≤ 0 then s.1 else nI i) (if lg_cmp (lN b) s.2 ≤ 0 then s.2 else lN b) (nI (i + 1))
          rw [LX11_likeliest_16_s, if_neg (lt12 hi), has11, sb', hb_nI (by omega) (by omega), if_pos h, if_neg one_ne, h3, sb', sb']
          by_cases q : lg_cmp (lN b) s.2 ≤ 0
          · rw [if_pos q, sb', lt_eq, nI_1, if_pos q, if_pos q]
          · rw [if_neg q, sb', lt_eq, nI_1, if_neg q, if_neg q]
      · have eone : one' i = lN 0 := by
          rw [c2 i hi]
          simp only [if_neg h]
          rfl
        rw [eone, hk2, if_pos ((lgle (by decide) (by omega)).mpr (by omega)), if_pos ((lgle (by decide) (by omega)).mpr (by omega))] at f1
        refine ⟨s, s, ⟨rfl, k, hk1, hk2⟩, ?_, ?_⟩
        · show LX6_most_10 one' _ (N + 1) s.1 s.2 (nI i) = LX6_most_10 one' _ N s.1 s.2 (nI (i + 1))
          rw [hk2]; exact f1
        · show LX11_likeliest_16 md mi go fl lk st fr to rn te fy fn fd th bl (nI n) (nI (srN th lk)) _ (N + 1) s.1 s.2 (nI i) = LX11_likeliest_16 md mi go fl lk st fr to rn te fy fn fd th bl (nI n) (nI (srN th lk)) _ N s.1 s.2 (nI (i + 1))
          rw [LX11_likeliest_16_s, if_neg (lt12 hi), has11, sb', hb_nI (by omega) (by omega), if_neg h, if_pos rfl, sb', lt_eq, nI_1]) FU 0 ((-1), lN b0) ((-1), lN b0) (by omega) (fu_lt (by omega)) ⟨rfl, b0, hb0, rfl⟩
  obtain ⟨r, _, x1, x2⟩ := key
  refine ⟨r, lN b0, al', 1, one', ?_, x2, Or.inr ⟨rfl, eno.symm.trans c1, c2, c3⟩⟩
  rw [show LX6_most_10 one' (fun x5 _ _ => some x5) FU (-1) (lN b0) 0 = some r from x1, sb']
/-- promise 17 -/
theorem p_worth (t : Nat) (ht : th = nI t) (ht2 : t < 4096) (hT : Tree th md) (hm : Bd mi 12 99) (hfr : Bd fr 12 23) (hto : Bd to 12 23) (hte : ∀ c, c < 4 → ∃ k, 1 ≤ k ∧ k ≤ 9999 ∧ te c = nI k) (hfy : Bd fy 4 9) (hfn : Bd fn 4 9) (hW : Wat th md mi go fl st fr to wg sL sT sF sU) (hF : Fnd fC fS fM fT fY fd n) (hlk : Bd lk 12 99) (hbl : ∃ k, k ≤ 99 ∧ bl = nI k) {no al : Int64} {one : Nat → Int64} {k1 : Int32} (hk : k1 = 0 ∨ k1 = 1 ∧ C1 th bl md mi go fl lk st fr to rn te fy fn fd n no al one) (p0 p1 p2 p3 p4 : Int32) : ∃ (r no' al' : Int64) (k1' : Int32) (one' : Nat → Int64) (fC' fS' fM' fT' fY' : Nat → Int32), f_X10_worth p0 p1 p2 p3 p4 lk rn te fy fn th bl (nI (srN th lk)) wg no al k1 (nI n) one sL sT sF sU fC fS fM fT fY = some (r, no', al', k1', one', fC', fS', fM', fT', fY') ∧ f_X11_worth p0 p1 p2 p3 p4 md mi go fl lk st fr to rn te fy fn fd th bl (nI n) = some r ∧ (k1' = 0 ∨ k1' = 1 ∧ C1 th bl md mi go fl lk st fr to rn te fy fn fd n no' al' one') ∧ (∀ j, j ≠ 85 → fC' j = fC j ∧ fS' j = fS j ∧ fM' j = fM j ∧ fT' j = fT j ∧ fY' j = fY j) := by
  unfold f_X10_worth f_X11_worth
  have same : ∀ j, j ≠ 85 → fC j = fC j ∧ fS j = fS j ∧ fM j = fM j ∧ fT j = fT j ∧ fY j = fY j := fun _ _ => ⟨rfl, rfl, rfl, rfl, rfl⟩
  simp only [cup10, cup11, sb']
  by_cases h2 : 0 ≤ p0 ∧ p0 ≤ 3
  · obtain ⟨c, hc, rfl⟩ := cup_of h2
    simp only [if_pos h2, if_neg one_ne]
    have hfl := fill2 ht2 p1 p2 p3
    rw [← ht] at hfl
    rcases hfl with ⟨e1, e2⟩ | ⟨e1, e2, s, m, k, g1, g2, g3, g4, g5, g6, rfl, rfl, rfl⟩
    · rw [e1, e2, sb', sb', if_pos rfl, if_pos rfl]
      exact ⟨_, _, _, _, _, _, _, _, _, _, rfl, rfl, hk, same⟩
    · rw [e1, e2, sb', sb', if_neg one_ne, if_neg one_ne, part10, part11, sb', sb']
      by_cases h1 : 0 ≤ p4 ∧ p4 ≤ 1
      · simp only [if_pos h1, if_neg one_ne]
        obtain ⟨no', al', one', e, c1, c2, c3⟩ := one10 hT hm hfr hto hte hfy hfn hW hF hlk hbl hk
        obtain ⟨A, hA, eA⟩ := all_bd hT hm hfr hto hte hfy hfn hW hF hlk hbl
        have eal : al' = lN A := c3.trans eA
        obtain ⟨b0, hb0, _, h0⟩ := t_0 (lk := lk) hT hm hfr hto hte hfy hfn hW hF hlk hbl
        have eno : no' = lN b0 := by rw [c1, h0]; rfl
        have fin' : (1 : Int32) = 0 ∨ (1 : Int32) = 1 ∧ C1 th bl md mi go fl lk st fr to rn te fy fn fd n no' al' one' := Or.inr ⟨rfl, c1, c2, c3⟩
        rw [all11 hT hm hfr hto hte hfy hfn hW hF hlk hbl, sb', eA, e, sb']
        dsimp only
        rw [eal] at fin' ⊢
        by_cases hz : A = 0
        · rw [if_pos ((lgz (by omega)).mpr hz), if_pos ((lgz (by omega)).mpr hz)]
          exact ⟨_, _, _, _, _, _, _, _, _, _, rfl, rfl, fin', same⟩
        · rw [if_neg (fun q => hz ((lgz (by omega)).mp q)), if_neg (fun q => hz ((lgz (by omega)).mp q))]
          unfold f_X1_put f_X6_tenthsOf
          rw [sb', src11, sb', h0, sb']
          dsimp only
          have same' : ∀ j, j ≠ 85 → va_up fC 85 (nI c) j = fC j ∧ va_up fS 85 (nI s) j = fS j ∧ va_up fM 85 (nI m) j = fM j ∧ va_up fT 85 (nI k) j = fT j ∧ va_up fY 85 1 j = fY j := fun j hj => ⟨va_up_ne _ _ hj, va_up_ne _ _ hj, va_up_ne _ _ hj, va_up_ne _ _ hj, va_up_ne _ _ hj⟩
          have ty : ∀ r : Int32, ∃ (z : Int32) (q : Nat), q ≤ 10 ∧ f_X6_tenthsToSay 85 r fy fn (va_up fC 85 (nI c)) (va_up fY 85 1) = some (nI q) ∧ f_X11_yes (nI c) r fy fn = some z ∧ Int32.toInt64 z = lN q := by
            intro r
            obtain ⟨z, q, a1, a2, a3, a4⟩ := ten_yes hfy hfn (p := 85) (fC := va_up fC 85 (nI c)) (fY := va_up fY 85 1) hc (va_up_self _ _ _) (r := r) (y := 1) (Or.inr rfl) (va_up_self _ _ _)
            exact ⟨z, q, a1, a2, a3, Option.some.inj a4⟩
          obtain ⟨z0, q0, hq0, y1, y2, y3⟩ := ty 0
          rw [y1, y2, sb', sb', lt_eq, lt_eq, y3, eno, nI_l (by omega), lN_mul]
          have hl := sr_lt th lk
          have key := itp (S := Int64) (T := Int64) 12 (fun i s t => s = t ∧ ∃ k, k ≤ 9900000000000 * (i + 1) ∧ s = lN k) (fun N i x => LX6_tenthsOf_16 85 rn te fy fn wg one' sL sT sF sU (va_up fC 85 (nI c)) (va_up fS 85 (nI s)) (va_up fM 85 (nI m)) (va_up fT 85 (nI k)) (va_up fY 85 1) (fun x5 _ => some x5) N x (nI i)) (fun N i x => LX11_worth_75 (nI c) (nI s) (nI m) (nI k) md mi go fl lk st fr to rn te fy fn fd th bl (nI n) (nI (srN th lk)) (fun x15 _ => (f_X11_lowest x15 ((10 : Int64) * lN A) p4).bind fun q26 => some (q26)) N x (nI i)) (fun x => some x) (fun x => (f_X11_lowest x ((10 : Int64) * lN A) p4).bind fun q26 => some (q26)) (by
              intro N x y _
              constructor
              · show LX6_tenthsOf_16 85 rn te fy fn wg one' sL sT sF sU _ _ _ _ _ _ (N + 1) x (nI 12) = _
                rw [LX6_tenthsOf_16_s, if_pos (by decide)]
              · show LX11_worth_75 (nI c) (nI s) (nI m) (nI k) md mi go fl lk st fr to rn te fy fn fd th bl (nI n) (nI (srN th lk)) _ (N + 1) y (nI 12) = _
                rw [LX11_worth_75_s, if_pos (by decide)]) (by
              rintro N i x y hi ⟨rfl, w, hw, rfl⟩
              by_cases h : (srN th lk).testBit i = true
              · have hbi := (sr_bit h).2.1
                obtain ⟨b, hb, _, h3⟩ := t_1 (bl := bl) hT hm hfr hto hte hfy hfn hW hF hlk hbl hi hbi
                have eone : one' i = lN b := by
                  rw [c2 i hi]
                  simp only [if_pos h]
                  rw [h3]; rfl
                obtain ⟨r, _, z1, z2⟩ := sh1 (rn := rn) (te := te) (fC := va_up fC 85 (nI c)) (fS := va_up fS 85 (nI s)) (fM := va_up fM 85 (nI m)) (fT := va_up fT 85 (nI k)) (p := 85) hT hm hfr hto hW hi hbi g1 g2 g5 g6 hc (va_up_self _ _ _) (va_up_self _ _ _) (va_up_self _ _ _) (va_up_self _ _ _)
                obtain ⟨zz, q, hq, u1, u2, u3⟩ := ty r
                have hbq : b * q ≤ 9900000000000 := by
                  have := Nat.mul_le_mul hb hq
                  omega
                refine ⟨lN (w + b * q), lN (w + b * q), ⟨rfl, w + b * q, by omega, rfl⟩, ?_, ?_⟩
                · show LX6_tenthsOf_16 85 rn te fy fn wg one' sL sT sF sU _ _ _ _ _ _ (N + 1) (lN w) (nI i) = LX6_tenthsOf_16 85 rn te fy fn wg one' sL sT sF sU _ _ _ _ _ _ N (lN (w + b * q)) (nI (i + 1))
                  rw [LX6_tenthsOf_16_s, if_neg (lt12 hi), rl_nI hi (by decide), eone]
                  by_cases hb00 : b = 0
                  · subst hb00
                    rw [if_pos (by decide), sb', lt_eq, nI_1, Nat.zero_mul]
                    rfl
                  · rw [if_neg (fun q => hb00 ((lgz (by omega)).mp q)), ix_nI hi (by decide), z1, sb', rl_nI hi (by decide), u1, sb', lt_eq, sb', lt_eq, nI_1, eone, nI_l (by omega), lN_mul, lN_add]
                · show LX11_worth_75 (nI c) (nI s) (nI m) (nI k) md mi go fl lk st fr to rn te fy fn fd th bl (nI n) (nI (srN th lk)) _ (N + 1) (lN w) (nI i) = LX11_worth_75 (nI c) (nI s) (nI m) (nI k) md mi go fl lk st fr to rn te fy fn fd th bl (nI n) (nI (srN th lk)) _ N (lN (w + b * q)) (nI (i + 1))
                  rw [LX11_worth_75_s, if_neg (lt12 hi), has11, sb', hb_nI (by omega) (by omega), if_pos h, if_neg one_ne, h3, sb', z2, sb', u2, sb', sb', lt_eq, lt_eq, nI_1, u3, lN_mul, lN_add]
              · have eone : one' i = lN 0 := by
                  rw [c2 i hi]
                  simp only [if_neg h]
                  rfl
                refine ⟨lN w, lN w, ⟨rfl, w, by omega, rfl⟩, ?_, ?_⟩
                · show LX6_tenthsOf_16 85 rn te fy fn wg one' sL sT sF sU _ _ _ _ _ _ (N + 1) (lN w) (nI i) = LX6_tenthsOf_16 85 rn te fy fn wg one' sL sT sF sU _ _ _ _ _ _ N (lN w) (nI (i + 1))
                  rw [LX6_tenthsOf_16_s, if_neg (lt12 hi), rl_nI hi (by decide), eone, if_pos (by decide), sb', lt_eq, nI_1]
                · show LX11_worth_75 (nI c) (nI s) (nI m) (nI k) md mi go fl lk st fr to rn te fy fn fd th bl (nI n) (nI (srN th lk)) _ (N + 1) (lN w) (nI i) = LX11_worth_75 (nI c) (nI s) (nI m) (nI k) md mi go fl lk st fr to rn te fy fn fd th bl (nI n) (nI (srN th lk)) _ N (lN w) (nI (i + 1))
                  rw [LX11_worth_75_s, if_neg (lt12 hi), has11, sb', hb_nI (by omega) (by omega), if_neg h, if_pos rfl, sb', lt_eq, lt_eq, nI_1, Int64.add_zero]) FU 0 (lN (b0 * q0)) (lN (b0 * q0)) (by omega) (fu_lt (by omega)) ⟨rfl, b0 * q0, by have := Nat.mul_le_mul hb0 hq0; omega, rfl⟩
          obtain ⟨x, y, ⟨rfl, w, hw, rfl⟩, x1, x2⟩ := key
          have x1' : LX6_tenthsOf_16 85 rn te fy fn wg one' sL sT sF sU (va_up fC 85 (nI c)) (va_up fS 85 (nI s)) (va_up fM 85 (nI m)) (va_up fT 85 (nI k)) (va_up fY 85 1) (fun x5 _ => some x5) FU (lN (b0 * q0)) 0 = some (lN w) := x1
          have x2' : LX11_worth_75 (nI c) (nI s) (nI m) (nI k) md mi go fl lk st fr to rn te fy fn fd th bl (nI n) (nI (srN th lk)) (fun x15 _ => (f_X11_lowest x15 ((10 : Int64) * lN A) p4).bind fun q26 => some (q26)) FU (lN (b0 * q0)) 0 = (f_X11_lowest (lN w) ((10 : Int64) * lN A) p4).bind fun q26 => some (q26) := x2
          rw [x1', x2', sb', show (10 : Int64) * lN A = lN (10 * A) from lN_mul 10 A]
          obtain ⟨r, y1, y2⟩ := low2 (a := w) (b := 10 * A) (by omega) (by omega) (by omega) p4
          rw [y1, y2, sb', sb']
          rw [eno] at fin'
          exact ⟨_, _, _, _, _, _, _, _, _, _, rfl, rfl, fin', same'⟩
      · simp only [if_neg h1]
        exact ⟨_, _, _, _, _, _, _, _, _, _, rfl, rfl, hk, same⟩
  · simp only [if_neg h2]
    exact ⟨_, _, _, _, _, _, _, _, _, _, rfl, rfl, hk, same⟩
end
