/-! kinds, numbers, one line -/
section
variable {len : Nat} {b : Nat → Int32}
theorem kind2 {s t : Nat} (hst : s ≤ t) (ht : t ≤ 200) : ∃ z : Int32, (z = -1 ∨ ∃ kd, kd < 8 ∧ z = nI kd) ∧ f_X5_kindOfToken (nI s) (nI t) b = some z ∧ ∀ (R : Type) (K : Int32 → Option R), ((f_X11_isWord 180528 4 b (nI s) (nI t)).bind fun q1 =>
  (if q1 = 0 then
    (f_X11_isWord 769414 4 b (nI s) (nI t)).bind fun q11 =>
    if q11 = 0 then
      (f_X11_isWord 171529715 6 b (nI s) (nI t)).bind fun q13 =>
      if q13 = 0 then
        (f_X11_isWord 537255 4 b (nI s) (nI t)).bind fun q15 =>
        if q15 = 0 then
          (f_X11_isWord 468018 4 b (nI s) (nI t)).bind fun q17 =>
          if q17 = 0 then
            (f_X11_isWord 17059 3 b (nI s) (nI t)).bind fun q19 =>
            if q19 = 0 then
              (f_X11_isWord 661804 4 b (nI s) (nI t)).bind fun q21 =>
              if q21 = 0 then
                (f_X11_isWord 178670 4 b (nI s) (nI t)).bind fun q23 =>
                if q23 = 0 then
                  some ((-1))
                else
                  some (7)
              else
                some (6)
            else
              some (5)
          else
            some (4)
        else
          some (3)
      else
        some (2)
    else
      some (1)
  else
    some (0) : Option (Int32)).bind K) = K z := by
  unfold f_X5_kindOfToken
  obtain ⟨r0, h0, a0, c0⟩ := word2 (b := b) 0 180528 4 rfl (by decide) (by decide) hst ht
  have d0 : f_X11_isWord 180528 4 b (nI s) (nI t) = some r0 := c0
  obtain ⟨r1, h1, a1, c1⟩ := word2 (b := b) 1 769414 4 rfl (by decide) (by decide) hst ht
  have d1 : f_X11_isWord 769414 4 b (nI s) (nI t) = some r1 := c1
  obtain ⟨r2, h2, a2, c2⟩ := word2 (b := b) 2 171529715 6 rfl (by decide) (by decide) hst ht
  have d2 : f_X11_isWord 171529715 6 b (nI s) (nI t) = some r2 := c2
  obtain ⟨r3, h3, a3, c3⟩ := word2 (b := b) 3 537255 4 rfl (by decide) (by decide) hst ht
  have d3 : f_X11_isWord 537255 4 b (nI s) (nI t) = some r3 := c3
  obtain ⟨r4, h4, a4, c4⟩ := word2 (b := b) 4 468018 4 rfl (by decide) (by decide) hst ht
  have d4 : f_X11_isWord 468018 4 b (nI s) (nI t) = some r4 := c4
  obtain ⟨r5, h5, a5, c5⟩ := word2 (b := b) 5 17059 3 rfl (by decide) (by decide) hst ht
  have d5 : f_X11_isWord 17059 3 b (nI s) (nI t) = some r5 := c5
  obtain ⟨r6, h6, a6, c6⟩ := word2 (b := b) 6 661804 4 rfl (by decide) (by decide) hst ht
  have d6 : f_X11_isWord 661804 4 b (nI s) (nI t) = some r6 := c6
  obtain ⟨r7, h7, a7, c7⟩ := word2 (b := b) 7 178670 4 rfl (by decide) (by decide) hst ht
  have d7 : f_X11_isWord 178670 4 b (nI s) (nI t) = some r7 := c7
  have st : ∀ (k : Nat) (hk : k < 8) (N : Nat) (r : Int32), f_X5_tokenIs k (nI s) (nI t) b = some r → LX5_kindOfToken_2 (nI s) (nI t) b (fun _ => some (-1)) (N + 1) (nI k) = if r = 0 then LX5_kindOfToken_2 (nI s) (nI t) b (fun _ => some (-1)) N (nI (k + 1)) else some (nI k) := fun k hk N r h => by rw [kstep hk, h, sb']
  rcases h0 with rfl | rfl
  rotate_left
  · exact ⟨nI 0, Or.inr ⟨0, by decide, rfl⟩, by rw [show FU = 5999 + 1 from rfl, show (0 : Int32) = nI 0 from rfl, st 0 (by decide) _ _ a0, if_neg one_ne], fun R K => by rw [d0, sb', if_neg one_ne, sb']; rfl⟩
  ·
    rcases h1 with rfl | rfl
    rotate_left
    · exact ⟨nI 1, Or.inr ⟨1, by decide, rfl⟩, by rw [show FU = 5999 + 1 from rfl, show (0 : Int32) = nI 0 from rfl, st 0 (by decide) _ _ a0, if_pos rfl, st 1 (by decide) _ _ a1, if_neg one_ne], fun R K => by rw [d0, sb', if_pos rfl, d1, sb', if_neg one_ne, sb']; rfl⟩
    ·
      rcases h2 with rfl | rfl
      rotate_left
      · exact ⟨nI 2, Or.inr ⟨2, by decide, rfl⟩, by rw [show FU = 5999 + 1 from rfl, show (0 : Int32) = nI 0 from rfl, st 0 (by decide) _ _ a0, if_pos rfl, st 1 (by decide) _ _ a1, if_pos rfl, st 2 (by decide) _ _ a2, if_neg one_ne], fun R K => by rw [d0, sb', if_pos rfl, d1, sb', if_pos rfl, d2, sb', if_neg one_ne, sb']; rfl⟩
      ·
        rcases h3 with rfl | rfl
        rotate_left
        · exact ⟨nI 3, Or.inr ⟨3, by decide, rfl⟩, by rw [show FU = 5999 + 1 from rfl, show (0 : Int32) = nI 0 from rfl, st 0 (by decide) _ _ a0, if_pos rfl, st 1 (by decide) _ _ a1, if_pos rfl, st 2 (by decide) _ _ a2, if_pos rfl, st 3 (by decide) _ _ a3, if_neg one_ne], fun R K => by rw [d0, sb', if_pos rfl, d1, sb', if_pos rfl, d2, sb', if_pos rfl, d3, sb', if_neg one_ne, sb']; rfl⟩
        ·
          rcases h4 with rfl | rfl
          rotate_left
          · exact ⟨nI 4, Or.inr ⟨4, by decide, rfl⟩, by rw [show FU = 5999 + 1 from rfl, show (0 : Int32) = nI 0 from rfl, st 0 (by decide) _ _ a0, if_pos rfl, st 1 (by decide) _ _ a1, if_pos rfl, st 2 (by decide) _ _ a2, if_pos rfl, st 3 (by decide) _ _ a3, if_pos rfl, st 4 (by decide) _ _ a4, if_neg one_ne], fun R K => by rw [d0, sb', if_pos rfl, d1, sb', if_pos rfl, d2, sb', if_pos rfl, d3, sb', if_pos rfl, d4, sb', if_neg one_ne, sb']; rfl⟩
          ·
            rcases h5 with rfl | rfl
            rotate_left
            · exact ⟨nI 5, Or.inr ⟨5, by decide, rfl⟩, by rw [show FU = 5999 + 1 from rfl, show (0 : Int32) = nI 0 from rfl, st 0 (by decide) _ _ a0, if_pos rfl, st 1 (by decide) _ _ a1, if_pos rfl, st 2 (by decide) _ _ a2, if_pos rfl, st 3 (by decide) _ _ a3, if_pos rfl, st 4 (by decide) _ _ a4, if_pos rfl, st 5 (by decide) _ _ a5, if_neg one_ne], fun R K => by rw [d0, sb', if_pos rfl, d1, sb', if_pos rfl, d2, sb', if_pos rfl, d3, sb', if_pos rfl, d4, sb', if_pos rfl, d5, sb', if_neg one_ne, sb']; rfl⟩
            ·
              rcases h6 with rfl | rfl
              rotate_left
              · exact ⟨nI 6, Or.inr ⟨6, by decide, rfl⟩, by rw [show FU = 5999 + 1 from rfl, show (0 : Int32) = nI 0 from rfl, st 0 (by decide) _ _ a0, if_pos rfl, st 1 (by decide) _ _ a1, if_pos rfl, st 2 (by decide) _ _ a2, if_pos rfl, st 3 (by decide) _ _ a3, if_pos rfl, st 4 (by decide) _ _ a4, if_pos rfl, st 5 (by decide) _ _ a5, if_pos rfl, st 6 (by decide) _ _ a6, if_neg one_ne], fun R K => by rw [d0, sb', if_pos rfl, d1, sb', if_pos rfl, d2, sb', if_pos rfl, d3, sb', if_pos rfl, d4, sb', if_pos rfl, d5, sb', if_pos rfl, d6, sb', if_neg one_ne, sb']; rfl⟩
              ·
                rcases h7 with rfl | rfl
                rotate_left
                · exact ⟨nI 7, Or.inr ⟨7, by decide, rfl⟩, by rw [show FU = 5999 + 1 from rfl, show (0 : Int32) = nI 0 from rfl, st 0 (by decide) _ _ a0, if_pos rfl, st 1 (by decide) _ _ a1, if_pos rfl, st 2 (by decide) _ _ a2, if_pos rfl, st 3 (by decide) _ _ a3, if_pos rfl, st 4 (by decide) _ _ a4, if_pos rfl, st 5 (by decide) _ _ a5, if_pos rfl, st 6 (by decide) _ _ a6, if_pos rfl, st 7 (by decide) _ _ a7, if_neg one_ne], fun R K => by rw [d0, sb', if_pos rfl, d1, sb', if_pos rfl, d2, sb', if_pos rfl, d3, sb', if_pos rfl, d4, sb', if_pos rfl, d5, sb', if_pos rfl, d6, sb', if_pos rfl, d7, sb', if_neg one_ne, sb']; rfl⟩
                ·
                  exact ⟨-1, Or.inl rfl, by rw [show FU = 5999 + 1 from rfl, show (0 : Int32) = nI 0 from rfl, st 0 (by decide) _ _ a0, if_pos rfl, st 1 (by decide) _ _ a1, if_pos rfl, st 2 (by decide) _ _ a2, if_pos rfl, st 3 (by decide) _ _ a3, if_pos rfl, st 4 (by decide) _ _ a4, if_pos rfl, st 5 (by decide) _ _ a5, if_pos rfl, st 6 (by decide) _ _ a6, if_pos rfl, st 7 (by decide) _ _ a7, if_pos rfl, LX5_kindOfToken_2_s, if_pos (by decide)], fun R K => by rw [d0, sb', if_pos rfl, d1, sb', if_pos rfl, d2, sb', if_pos rfl, d3, sb', if_pos rfl, d4, sb', if_pos rfl, d5, sb', if_pos rfl, d6, sb', if_pos rfl, d7, sb', if_pos rfl, sb']⟩
def dv (b : Nat → Int32) (s : Nat) : Nat → Nat
  | 0 => 0
  | n + 1 => 10 * dv b s n + ((b (s + n)).toNatClampNeg - 48)
theorem dig_e {c : Int32} (h : so c = 2) : c = nI c.toNatClampNeg ∧ 48 ≤ c.toNatClampNeg ∧ c.toNatClampNeg ≤ 57 := by
  obtain ⟨h1, h2⟩ := (so_2 c).mp h
  obtain ⟨k, hk, rfl⟩ := nI_of (x := c) (fun q => h1 (Int32.lt_of_lt_of_le q (by decide)))
  rw [nI_clamp hk]
  have a1 : 48 ≤ k := by
    apply Decidable.byContradiction
    intro q
    exact h1 (nI_lt (b := 48) (by omega) (by decide))
  have a2 : k ≤ 57 := by
    apply Decidable.byContradiction
    intro q
    exact h2 (nI_lt (a := 57) (by omega) hk)
  exact ⟨rfl, a1, a2⟩
theorem dv_lt {s : Nat} : ∀ n, (∀ i, i < n → so (b (s + i)) = 2) → dv b s n < 10 ^ n
  | 0, _ => by rw [dv]; decide
  | n + 1, h => by
    have h1 := dv_lt n (fun i hi => h i (by omega))
    obtain ⟨_, h2, h3⟩ := dig_e (h n (by omega))
    rw [dv, Nat.pow_succ]
    omega
theorem num2 (hl : len ≤ 200) {e s t : Nat} (hTk : Tk len b e s t) {lo hi k : Nat} (hlo : lo ≤ 9999) (hhi : hi ≤ 9999) (hk : k ≤ 4) : (∃ q, f_X5_numberOfToken (nI s) (nI t) b = some q ∧ (q < nI lo ∨ ¬ q ≤ nI hi) ∧ ∀ rd rm, f_X11_reads (nI k) (nI lo) (nI hi) b rd (nI len) rm (nI t) (nI s) (nI t) = some (0, rd, nI t, nI s, nI t)) ∨ (∃ v, lo ≤ v ∧ v ≤ hi ∧ f_X5_numberOfToken (nI s) (nI t) b = some (nI v) ∧ ∃ s2 t2, Tk len b t s2 t2 ∧ ∀ rd j, j ≤ 8 → f_X11_reads (nI k) (nI lo) (nI hi) b rd (nI len) (nI j) (nI t) (nI s) (nI t) = some (1, upd rd (6 * j + 1 + k) (nI v), nI t2, nI s2, nI t2)) := by
  obtain ⟨g1, g2, g3, g4, g5, g6⟩ := hTk
  have neg1 : (-1 : Int32) < nI lo := Int32.lt_of_lt_of_le (by decide) (nI_pos' (n := lo) (by omega))
  unfold f_X5_numberOfToken f_X11_reads
  rw [pk_sub g2, lt_eq]
  by_cases h1 : s = len
  · refine Or.inl ⟨-1, ?_, Or.inl neg1, fun rd rm => ?_⟩
    · rw [if_pos (show nI (t - s) < 1 from nI_lt (b := 1) (by omega) (by decide))]
    · rw [if_pos (by rw [h1])]
  · obtain ⟨g7, g8, g9⟩ := g4 (by omega)
    have n1 : ¬ nI (t - s) < 1 := nI_nlt (b := 1) (by omega) (by omega)
    have n2 : ¬ nI s = nI len := fun w => h1 ((nI_eq (by omega) (by omega)).mp w)
    by_cases h2 : so (b s) = 2
    · by_cases h3 : t - s ≤ 4
      · have e4 : nI (t - s) ≤ 4 := nI_le (b := 4) h3 (by decide)
        have hd : ∀ i, i < t - s → so (b (s + i)) = 2 := fun i hi => by rw [g8 (s + i) (by omega) (by omega)]; exact h2
        have hv : ∀ n, n ≤ t - s → dv b s n < 10000 := fun n hn => by
          have a1 := dv_lt (b := b) n (fun i hi => hd i (by omega))
          have a2 : 10 ^ n ≤ 10 ^ 4 := Nat.pow_le_pow_right (by decide) (by omega)
          have a3 : (10 : Nat) ^ 4 = 10000 := by decide
          omega
        have hvt := hv (t - s) (Nat.le_refl _)
        have stp : ∀ i, i < t - s → nI (dv b s i) * 10 + b (s + i) - 48 = nI (dv b s (i + 1)) ∧ 10 * nI (dv b s i) + b (s + i) - 48 = nI (dv b s (i + 1)) := fun i hi => by
          obtain ⟨x1, x2, x3⟩ := dig_e (hd i hi)
          have x4 := hv i (by omega)
          rw [dv]
          generalize (b (s + i)).toNatClampNeg = y at x1 x2 x3
          rw [x1]
          constructor
          · rw [show nI (dv b s i) * 10 = nI (dv b s i * 10) from pk_mul _ 10, nI_add, show (48 : Int32) = nI 48 from rfl, pk_sub (by omega)]
            congr 1; omega
          · rw [show 10 * nI (dv b s i) = nI (10 * dv b s i) from pk_mul 10 _, nI_add, show (48 : Int32) = nI 48 from rfl, pk_sub (by omega)]
            congr 1; omega
        have c10 : LX5_numberOfToken_29 (nI t) b (fun x6 _ => some x6) FU 0 (nI s) = some (nI (dv b s (t - s))) := by
          refine itv (t - s) (fun N i => LX5_numberOfToken_29 (nI t) b (fun x6 _ => some x6) N (nI (dv b s i)) (nI (s + i))) _ ?_ ?_ FU 0 (by omega) (fu_lt (by omega))
          · intro N
            show LX5_numberOfToken_29 (nI t) b _ (N + 1) (nI (dv b s (t - s))) (nI (s + (t - s))) = _
            rw [LX5_numberOfToken_29_s, if_pos (nI_le (by omega) (by omega))]
          · intro N i hi
            show LX5_numberOfToken_29 (nI t) b _ (N + 1) (nI (dv b s i)) (nI (s + i)) = LX5_numberOfToken_29 (nI t) b _ N (nI (dv b s (i + 1))) (nI (s + i + 1))
            rw [LX5_numberOfToken_29_s, if_neg (nI_ge (by omega) (by omega)), ri_nI (by omega) (by decide), dig10, sb', if_pos (hd i hi), if_neg one_ne, ri_nI (by omega) (by decide), (stp i hi).1, lt_eq, lt_eq, nI_1]
        have c11 : ∀ ko : Int32 → Int32 → Option (Int32 × (Nat → Int32) × Int32 × Int32 × Int32), LX11_reads_51 b (nI t) ko FU 0 (nI s) = ko (nI (dv b s (t - s))) (nI t) := by
          intro ko
          refine itv (t - s) (fun N i => LX11_reads_51 b (nI t) ko N (nI (dv b s i)) (nI (s + i))) _ ?_ ?_ FU 0 (by omega) (fu_lt (by omega))
          · intro N
            show LX11_reads_51 b (nI t) ko (N + 1) (nI (dv b s (t - s))) (nI (s + (t - s))) = _
            rw [LX11_reads_51_s, if_pos (nI_le (by omega) (by omega)), show s + (t - s) = t by omega]
          · intro N i hi
            show LX11_reads_51 b (nI t) ko (N + 1) (nI (dv b s i)) (nI (s + i)) = LX11_reads_51 b (nI t) ko N (nI (dv b s (i + 1))) (nI (s + i + 1))
            rw [LX11_reads_51_s, if_neg (nI_ge (by omega) (by omega)), ri_nI (by omega) (by decide), (stp i hi).2, lt_eq, lt_eq, nI_1]
        rw [if_neg n1, if_pos e4, c10]
        have so2 : ∀ {R : Type} (A B : Option R), (if nI (so (b s)) = 2 then A else B) = A := fun A B => by rw [h2]; exact if_pos rfl
        have inn : f_X11_in (Int32.toInt64 (nI (dv b s (t - s)))) (Int32.toInt64 (nI lo)) (Int32.toInt64 (nI hi)) = some (if nI lo ≤ nI (dv b s (t - s)) ∧ nI (dv b s (t - s)) ≤ nI hi then 1 else 0) := inI _ _ _ rfl rfl
        by_cases h4 : lo ≤ dv b s (t - s) ∧ dv b s (t - s) ≤ hi
        · obtain ⟨s2, t2, hT2⟩ := tok2 (b := b) hl g3
          refine Or.inr ⟨_, h4.1, h4.2, rfl, s2, t2, hT2, fun rd j hj => ?_⟩
          have w6 : (6 : Int32) * nI j + 1 + nI k = nI (6 * j + 1 + k) := by
            rw [show (6 : Int32) * nI j = nI (6 * j) from pk_mul 6 j, nI_1, nI_add]
          have y4 : nI lo ≤ nI (dv b s (t - s)) ∧ nI (dv b s (t - s)) ≤ nI hi := ⟨nI_le h4.1 (by omega), nI_le h4.2 (by omega)⟩
          rw [if_neg n2, ri_nI (by omega) (by decide), sort11, sb', so2, if_pos e4, c11, inn, sb', if_pos y4, if_neg one_ne, w6, wi_nI (by omega) (by decide), hT2.2.2.2.2.2, sb']
        · refine Or.inl ⟨_, rfl, ?_, fun rd rm => ?_⟩
          · by_cases h5 : lo ≤ dv b s (t - s)
            · exact Or.inr (nI_ge (by omega) (by omega))
            · exact Or.inl (nI_lt (by omega) (by omega))
          · have y4 : ¬ (nI lo ≤ nI (dv b s (t - s)) ∧ nI (dv b s (t - s)) ≤ nI hi) := fun w => h4 ⟨(nI_leI (by omega) (by omega)).mp w.1, (nI_leI (by omega) (by omega)).mp w.2⟩
            rw [if_neg n2, ri_nI (by omega) (by decide), sort11, sb', so2, if_pos e4, c11, inn, sb', if_neg y4, if_pos rfl]
      · have e4 : ¬ nI (t - s) ≤ 4 := nI_ge (a := 4) (by omega) (by omega)
        refine Or.inl ⟨-1, ?_, Or.inl neg1, fun rd rm => ?_⟩
        · rw [if_neg n1, if_neg e4]
        · rw [if_neg n2, ri_nI (by omega) (by decide), sort11, sb', h2, if_pos (by decide), if_neg e4]
    · have so2 : ¬ nI (so (b s)) = 2 := fun w => h2 ((nI_eq (b := 2) (by have := so_le (b s); omega) (by decide)).mp w)
      refine Or.inl ⟨-1, ?_, Or.inl neg1, fun rd rm => ?_⟩
      · rw [if_neg n1]
        by_cases h3 : nI (t - s) ≤ 4
        · rw [if_pos h3, fu_s, LX5_numberOfToken_29_s, if_neg (nI_ge g7 (by omega)), ri_nI (by omega) (by decide), dig10, sb', if_neg h2, if_pos rfl]
        · rw [if_neg h3]
      · rw [if_neg n2, ri_nI (by omega) (by decide), sort11, sb', if_neg so2]
theorem stp2 (hl : len ≤ 200) {kd i m j lo hi e s t : Nat} (him : i < m) (hm : m ≤ 5) (hj : j ≤ 8) (hTk : Tk len b e s t) (hlo : lo ≤ 9999) (hhi : hi ≤ 9999) {f4 n : Nat → Int32} (hLO : (if nI kd = 3 then if nI i = 2 then ri n 45 ((nI (5 * j) + 1)) fun x52 => some (x52) else ri boundF 9 (nI kd) fun x48 => ri leastF 21 ((x48 + nI i)) fun x50 => some (x50) else ri boundF 9 (nI kd) fun x43 => ri leastF 21 ((x43 + nI i)) fun x45 => some (x45) : Option (Int32)) = some (nI lo)) (hHI : (if nI kd = 0 then if nI i = 1 then ri n 45 (nI (5 * j)) fun x40 => some ((x40 - 1)) else ri boundF 9 (nI kd) fun x36 => ri mostF 21 ((x36 + nI i)) fun x38 => some (x38) else ri boundF 9 (nI kd) fun x31 => ri mostF 21 ((x31 + nI i)) fun x33 => some (x33) : Option (Int32)) = some (nI hi)) (ko : Int32 → (Nat → Int32) → Int32 → Int32 → Option (Int32 × Int32 × Int32 × (Nat → Int32) × (Nat → Int32))) (rd : Nat → Int32) : ((∀ N ts, LX5_readLine_45 (nI len) b (nI kd) f4 (nI (5 * j)) (nI m) ko (N + 1) (nI i) n (nI e) ts = some (0, nI s, nI t, f4, n)) ∧ f_X11_reads (nI i) (nI lo) (nI hi) b rd (nI len) (nI j) (nI t) (nI s) (nI t) = some (0, rd, nI t, nI s, nI t)) ∨ ∃ v s2 t2, lo ≤ v ∧ v ≤ hi ∧ Tk len b t s2 t2 ∧ (∀ N ts, LX5_readLine_45 (nI len) b (nI kd) f4 (nI (5 * j)) (nI m) ko (N + 1) (nI i) n (nI e) ts = LX5_readLine_45 (nI len) b (nI kd) f4 (nI (5 * j)) (nI m) ko N (nI (i + 1)) (upd n (5 * j + i) (nI v)) (nI t) (nI s)) ∧ f_X11_reads (nI i) (nI lo) (nI hi) b rd (nI len) (nI j) (nI t) (nI s) (nI t) = some (1, upd rd (6 * j + 1 + i) (nI v), nI t2, nI s2, nI t2) := by
  have g5 := hTk.2.2.2.2.1
  rcases num2 hl hTk (lo := lo) (hi := hi) (k := i) hlo hhi (by omega) with ⟨q, q1, q2, q3⟩ | ⟨v, v1, v2, v3, s2, t2, v4, v5⟩
  · refine Or.inl ⟨fun N ts => ?_, q3 rd (nI j)⟩
    rw [LX5_readLine_45_s, if_neg (nI_ge him (by omega)), g5, sb']
    dsimp only
    rw [q1, sb', hLO, sb', hHI, sb']
    by_cases w : q < nI lo
    · rw [if_pos w]
    · rw [if_neg w]
      rcases q2 with q2 | q2
      · exact absurd q2 w
      · rw [if_neg q2]
  · refine Or.inr ⟨v, s2, t2, v1, v2, v4, fun N ts => ?_, v5 rd j hj⟩
    rw [LX5_readLine_45_s, if_neg (nI_ge him (by omega)), g5, sb']
    dsimp only
    rw [v3, sb', hLO, sb', hHI, sb', if_neg (nI_nlt v1 (by omega)), if_pos (nI_le v2 (by omega)), nI_add, wi_nI (by omega) (by decide), lt_eq, nI_1]
def upl (f : Nat → Int32) (p : Nat) : List Nat → Nat → Int32
  | [] => f
  | v :: vs => upl (upd f p (nI v)) (p + 1) vs
theorem upl_out : ∀ (vs : List Nat) (f : Nat → Int32) (p x : Nat), (x < p ∨ p + vs.length ≤ x) → upl f p vs x = f x
  | [], f, p, x, _ => rfl
  | v :: vs, f, p, x, h => by
    rw [upl, upl_out vs _ (p + 1) x (by rw [List.length_cons] at h; omega), pk_un (by rw [List.length_cons] at h; omega)]
theorem upl_in : ∀ (vs : List Nat) (f : Nat → Int32) (p i : Nat), i < vs.length → upl f p vs (p + i) = nI (vs.getD i 0)
  | [], f, p, i, h => by rw [List.length_nil] at h; omega
  | v :: vs, f, p, i, h => by
    rw [List.length_cons] at h
    rw [upl]
    cases i with
    | zero => rw [upl_out vs _ (p + 1) (p + 0) (by omega)]; exact pk_us
    | succ i => rw [show p + (i + 1) = p + 1 + i by omega, upl_in vs _ (p + 1) i (by omega)]; rfl
/-- the numbers that a line of a kind may have -/
def okv (kd : Nat) (vs : List Nat) : Prop := (kd = 0 ∧ ∃ v u m w g, vs = [v, u, m, w, g] ∧ 1 ≤ v ∧ v ≤ 11 ∧ u < v ∧ m ≤ 99 ∧ 1 ≤ w ∧ w ≤ 60 ∧ g ≤ 99) ∨ (kd = 1 ∧ ∃ v a, vs = [v, a] ∧ v ≤ 11 ∧ a ≤ 999) ∨ (kd = 2 ∧ ∃ v a c, vs = [v, a, c] ∧ v ≤ 11 ∧ a ≤ 99 ∧ c ≤ 9999) ∨ (kd = 3 ∧ ∃ v a c, vs = [v, a, c] ∧ v ≤ 11 ∧ a ≤ 23 ∧ a ≤ c ∧ c ≤ 23) ∨ (kd = 4 ∧ ∃ v a, vs = [v, a] ∧ v ≤ 23 ∧ a ≤ 90) ∨ (kd = 5 ∧ ∃ v a c d, vs = [v, a, c, d] ∧ v ≤ 3 ∧ 1 ≤ a ∧ a ≤ 9999 ∧ c ≤ 9 ∧ d ≤ 9) ∨ (kd = 6 ∧ ∃ v, vs = [v] ∧ v ≤ 60) ∨ (kd = 7 ∧ ∃ v, vs = [v] ∧ v ≤ 99)
theorem kd_0 (hl : len ≤ 200) {e s t j : Nat} (hj : j ≤ 8) (hTk : Tk len b e s t) (f4 n rd : Nat → Int32) (ts : Int32) : (∃ (s1 t1 : Nat) (n1 rd1 : Nat → Int32), s1 ≤ len ∧ LX5_readLine_45 (nI len) b (nI 0) f4 (nI (5 * j)) (nI 5) (fun x16 f17 x18 x19 => some (1, x19, x18, f4, f17)) FU 0 n (nI e) ts = some (0, nI s1, nI t1, f4, n1) ∧ f_X11_readsRest (nI 0) b rd (nI len) (nI j) (nI t) (nI s) (nI t) = some (0, rd1, nI t1, nI s1, nI t1)) ∨ (∃ (vs : List Nat) (e1 s1 t1 : Nat) (x1 : Int32), okv 0 vs ∧ Tk len b e1 s1 t1 ∧ LX5_readLine_45 (nI len) b (nI 0) f4 (nI (5 * j)) (nI 5) (fun x16 f17 x18 x19 => some (1, x19, x18, f4, f17)) FU 0 n (nI e) ts = some (1, x1, nI e1, f4, upl n (5 * j) vs) ∧ f_X11_readsRest (nI 0) b rd (nI len) (nI j) (nI t) (nI s) (nI t) = some (1, upl rd (6 * j + 1) vs, nI t1, nI s1, nI t1)) := by
  unfold f_X11_readsRest
  rw [lt_eq, if_pos (show nI 0 = 0 by decide)]
  have w1 : (6 : Int32) * nI j + 1 = nI (6 * j + 1) := by rw [show (6 : Int32) * nI j = nI (6 * j) from pk_mul 6 j, nI_1]
  have w2 : (6 : Int32) * nI j + 2 = nI (6 * j + 1 + 1) := by rw [show (6 : Int32) * nI j = nI (6 * j) from pk_mul 6 j]; exact nI_add _ 2
  have fin : ∀ (N : Nat) (n1 : Nat → Int32) (e1 ts1 : Int32), LX5_readLine_45 (nI len) b (nI 0) f4 (nI (5 * j)) (nI 5) (fun x16 f17 x18 x19 => some (1, x19, x18, f4, f17)) (N + 1) (nI 5) n1 e1 ts1 = some (1, ts1, e1, f4, n1) := fun N n1 e1 ts1 => by rw [LX5_readLine_45_s, if_pos (by decide)]
  rcases stp2 hl (kd := 0) (i := 0) (m := 5) (lo := 1) (hi := 11) (f4 := f4) (n := n) (by decide) (by decide) hj hTk (by omega) (by omega) (by rw [if_neg (by decide)]; rfl) (by rw [if_pos (by decide), if_neg (by decide)]; rfl) (fun x16 f17 x18 x19 => some (1, x19, x18, f4, f17)) rd with ⟨a0, c0⟩ | ⟨v0, s1, t1, l0, u0, T1, a0, c0⟩
  · have d0 : f_X11_reads 0 1 11 b rd (nI len) (nI j) (nI t) (nI s) (nI t) = some (0, rd, nI t, nI s, nI t) := c0
    refine Or.inl ⟨s, t, n, rd, Nat.le_trans hTk.2.1 hTk.2.2.1, ?_, ?_⟩
    · exact (a0 5999 _)
    · simp only [d0, sb', if_true, if_neg one_ne, w1, w2, ri_nI (show 6 * j + 1 < 54 by omega) (show (54 : Nat) < 2 ^ 31 by decide), ri_nI (show 6 * j + 1 + 1 < 54 by omega) (show (54 : Nat) < 2 ^ 31 by decide), pk_us]
  · have d0 : f_X11_reads 0 1 11 b rd (nI len) (nI j) (nI t) (nI s) (nI t) = some (1, (upd rd (6 * j + 1) (nI v0)), nI t1, nI s1, nI t1) := c0
    rcases stp2 hl (kd := 0) (i := 1) (m := 5) (lo := 0) (hi := (v0 - 1)) (f4 := f4) (n := (upd n (5 * j) (nI v0))) (by decide) (by decide) hj T1 (by omega) (by omega) (by rw [if_neg (by decide)]; rfl) (by rw [if_pos (by decide), if_pos (by decide), ri_nI (by omega) (by decide), pk_us, nsub1 l0]) (fun x16 f17 x18 x19 => some (1, x19, x18, f4, f17)) (upd rd (6 * j + 1) (nI v0)) with ⟨a1, c1⟩ | ⟨v1, s2, t2, l1, u1, T2, a1, c1⟩
    · have d1 : f_X11_reads 1 0 (nI (v0 - 1)) b (upd rd (6 * j + 1) (nI v0)) (nI len) (nI j) (nI t1) (nI s1) (nI t1) = some (0, (upd rd (6 * j + 1) (nI v0)), nI t1, nI s1, nI t1) := c1
      refine Or.inl ⟨s1, t1, (upd n (5 * j) (nI v0)), (upd rd (6 * j + 1) (nI v0)), Nat.le_trans T1.2.1 T1.2.2.1, ?_, ?_⟩
      · exact ((a0 5999 _).trans (a1 5998 _))
      · simp only [d0, d1, nsub1 l0, sb', if_true, if_neg one_ne, w1, w2, ri_nI (show 6 * j + 1 < 54 by omega) (show (54 : Nat) < 2 ^ 31 by decide), ri_nI (show 6 * j + 1 + 1 < 54 by omega) (show (54 : Nat) < 2 ^ 31 by decide), pk_us]
    · have d1 : f_X11_reads 1 0 (nI (v0 - 1)) b (upd rd (6 * j + 1) (nI v0)) (nI len) (nI j) (nI t1) (nI s1) (nI t1) = some (1, (upd (upd rd (6 * j + 1) (nI v0)) (6 * j + 1 + 1) (nI v1)), nI t2, nI s2, nI t2) := c1
      rcases stp2 hl (kd := 0) (i := 2) (m := 5) (lo := 0) (hi := 99) (f4 := f4) (n := (upd (upd n (5 * j) (nI v0)) (5 * j + 1) (nI v1))) (by decide) (by decide) hj T2 (by omega) (by omega) (by rw [if_neg (by decide)]; rfl) (by rw [if_pos (by decide), if_neg (by decide)]; rfl) (fun x16 f17 x18 x19 => some (1, x19, x18, f4, f17)) (upd (upd rd (6 * j + 1) (nI v0)) (6 * j + 1 + 1) (nI v1)) with ⟨a2, c2⟩ | ⟨v2, s3, t3, l2, u2, T3, a2, c2⟩
      · have d2 : f_X11_reads 2 0 99 b (upd (upd rd (6 * j + 1) (nI v0)) (6 * j + 1 + 1) (nI v1)) (nI len) (nI j) (nI t2) (nI s2) (nI t2) = some (0, (upd (upd rd (6 * j + 1) (nI v0)) (6 * j + 1 + 1) (nI v1)), nI t2, nI s2, nI t2) := c2
        refine Or.inl ⟨s2, t2, (upd (upd n (5 * j) (nI v0)) (5 * j + 1) (nI v1)), (upd (upd rd (6 * j + 1) (nI v0)) (6 * j + 1 + 1) (nI v1)), Nat.le_trans T2.2.1 T2.2.2.1, ?_, ?_⟩
        · exact ((a0 5999 _).trans ((a1 5998 _).trans (a2 5997 _)))
        · simp only [d0, d1, d2, nsub1 l0, sb', if_true, if_neg one_ne, w1, w2, ri_nI (show 6 * j + 1 < 54 by omega) (show (54 : Nat) < 2 ^ 31 by decide), ri_nI (show 6 * j + 1 + 1 < 54 by omega) (show (54 : Nat) < 2 ^ 31 by decide), pk_us]
      · have d2 : f_X11_reads 2 0 99 b (upd (upd rd (6 * j + 1) (nI v0)) (6 * j + 1 + 1) (nI v1)) (nI len) (nI j) (nI t2) (nI s2) (nI t2) = some (1, (upd (upd (upd rd (6 * j + 1) (nI v0)) (6 * j + 1 + 1) (nI v1)) (6 * j + 1 + 1 + 1) (nI v2)), nI t3, nI s3, nI t3) := c2
        rcases stp2 hl (kd := 0) (i := 3) (m := 5) (lo := 1) (hi := 60) (f4 := f4) (n := (upd (upd (upd n (5 * j) (nI v0)) (5 * j + 1) (nI v1)) (5 * j + 1 + 1) (nI v2))) (by decide) (by decide) hj T3 (by omega) (by omega) (by rw [if_neg (by decide)]; rfl) (by rw [if_pos (by decide), if_neg (by decide)]; rfl) (fun x16 f17 x18 x19 => some (1, x19, x18, f4, f17)) (upd (upd (upd rd (6 * j + 1) (nI v0)) (6 * j + 1 + 1) (nI v1)) (6 * j + 1 + 1 + 1) (nI v2)) with ⟨a3, c3⟩ | ⟨v3, s4, t4, l3, u3, T4, a3, c3⟩
        · have d3 : f_X11_reads 3 1 60 b (upd (upd (upd rd (6 * j + 1) (nI v0)) (6 * j + 1 + 1) (nI v1)) (6 * j + 1 + 1 + 1) (nI v2)) (nI len) (nI j) (nI t3) (nI s3) (nI t3) = some (0, (upd (upd (upd rd (6 * j + 1) (nI v0)) (6 * j + 1 + 1) (nI v1)) (6 * j + 1 + 1 + 1) (nI v2)), nI t3, nI s3, nI t3) := c3
          refine Or.inl ⟨s3, t3, (upd (upd (upd n (5 * j) (nI v0)) (5 * j + 1) (nI v1)) (5 * j + 1 + 1) (nI v2)), (upd (upd (upd rd (6 * j + 1) (nI v0)) (6 * j + 1 + 1) (nI v1)) (6 * j + 1 + 1 + 1) (nI v2)), Nat.le_trans T3.2.1 T3.2.2.1, ?_, ?_⟩
          · exact ((a0 5999 _).trans ((a1 5998 _).trans ((a2 5997 _).trans (a3 5996 _))))
          · simp only [d0, d1, d2, d3, nsub1 l0, sb', if_true, if_neg one_ne, w1, w2, ri_nI (show 6 * j + 1 < 54 by omega) (show (54 : Nat) < 2 ^ 31 by decide), ri_nI (show 6 * j + 1 + 1 < 54 by omega) (show (54 : Nat) < 2 ^ 31 by decide), pk_us]
        · have d3 : f_X11_reads 3 1 60 b (upd (upd (upd rd (6 * j + 1) (nI v0)) (6 * j + 1 + 1) (nI v1)) (6 * j + 1 + 1 + 1) (nI v2)) (nI len) (nI j) (nI t3) (nI s3) (nI t3) = some (1, (upd (upd (upd (upd rd (6 * j + 1) (nI v0)) (6 * j + 1 + 1) (nI v1)) (6 * j + 1 + 1 + 1) (nI v2)) (6 * j + 1 + 1 + 1 + 1) (nI v3)), nI t4, nI s4, nI t4) := c3
          rcases stp2 hl (kd := 0) (i := 4) (m := 5) (lo := 0) (hi := 99) (f4 := f4) (n := (upd (upd (upd (upd n (5 * j) (nI v0)) (5 * j + 1) (nI v1)) (5 * j + 1 + 1) (nI v2)) (5 * j + 1 + 1 + 1) (nI v3))) (by decide) (by decide) hj T4 (by omega) (by omega) (by rw [if_neg (by decide)]; rfl) (by rw [if_pos (by decide), if_neg (by decide)]; rfl) (fun x16 f17 x18 x19 => some (1, x19, x18, f4, f17)) (upd (upd (upd (upd rd (6 * j + 1) (nI v0)) (6 * j + 1 + 1) (nI v1)) (6 * j + 1 + 1 + 1) (nI v2)) (6 * j + 1 + 1 + 1 + 1) (nI v3)) with ⟨a4, c4⟩ | ⟨v4, s5, t5, l4, u4, T5, a4, c4⟩
          · have d4 : f_X11_reads 4 0 99 b (upd (upd (upd (upd rd (6 * j + 1) (nI v0)) (6 * j + 1 + 1) (nI v1)) (6 * j + 1 + 1 + 1) (nI v2)) (6 * j + 1 + 1 + 1 + 1) (nI v3)) (nI len) (nI j) (nI t4) (nI s4) (nI t4) = some (0, (upd (upd (upd (upd rd (6 * j + 1) (nI v0)) (6 * j + 1 + 1) (nI v1)) (6 * j + 1 + 1 + 1) (nI v2)) (6 * j + 1 + 1 + 1 + 1) (nI v3)), nI t4, nI s4, nI t4) := c4
            refine Or.inl ⟨s4, t4, (upd (upd (upd (upd n (5 * j) (nI v0)) (5 * j + 1) (nI v1)) (5 * j + 1 + 1) (nI v2)) (5 * j + 1 + 1 + 1) (nI v3)), (upd (upd (upd (upd rd (6 * j + 1) (nI v0)) (6 * j + 1 + 1) (nI v1)) (6 * j + 1 + 1 + 1) (nI v2)) (6 * j + 1 + 1 + 1 + 1) (nI v3)), Nat.le_trans T4.2.1 T4.2.2.1, ?_, ?_⟩
            · exact ((a0 5999 _).trans ((a1 5998 _).trans ((a2 5997 _).trans ((a3 5996 _).trans (a4 5995 _)))))
            · simp only [d0, d1, d2, d3, d4, nsub1 l0, sb', if_true, if_neg one_ne, w1, w2, ri_nI (show 6 * j + 1 < 54 by omega) (show (54 : Nat) < 2 ^ 31 by decide), ri_nI (show 6 * j + 1 + 1 < 54 by omega) (show (54 : Nat) < 2 ^ 31 by decide), pk_us]
          · have d4 : f_X11_reads 4 0 99 b (upd (upd (upd (upd rd (6 * j + 1) (nI v0)) (6 * j + 1 + 1) (nI v1)) (6 * j + 1 + 1 + 1) (nI v2)) (6 * j + 1 + 1 + 1 + 1) (nI v3)) (nI len) (nI j) (nI t4) (nI s4) (nI t4) = some (1, (upd (upd (upd (upd (upd rd (6 * j + 1) (nI v0)) (6 * j + 1 + 1) (nI v1)) (6 * j + 1 + 1 + 1) (nI v2)) (6 * j + 1 + 1 + 1 + 1) (nI v3)) (6 * j + 1 + 1 + 1 + 1 + 1) (nI v4)), nI t5, nI s5, nI t5) := c4
            refine Or.inr ⟨[v0, v1, v2, v3, v4], t4, s5, t5, nI s4, Or.inl ⟨rfl, v0, v1, v2, v3, v4, rfl, by omega⟩, T5, ?_, ?_⟩
            · exact ((a0 5999 _).trans ((a1 5998 _).trans ((a2 5997 _).trans ((a3 5996 _).trans ((a4 5995 _).trans (fin 5994 _ _ _))))))
            · simp only [d0, d1, d2, d3, d4, nsub1 l0, sb', if_true, if_neg one_ne, w1, w2, ri_nI (show 6 * j + 1 < 54 by omega) (show (54 : Nat) < 2 ^ 31 by decide), ri_nI (show 6 * j + 1 + 1 < 54 by omega) (show (54 : Nat) < 2 ^ 31 by decide), pk_us]
              rfl
theorem kd_1 (hl : len ≤ 200) {e s t j : Nat} (hj : j ≤ 8) (hTk : Tk len b e s t) (f4 n rd : Nat → Int32) (ts : Int32) : (∃ (s1 t1 : Nat) (n1 rd1 : Nat → Int32), s1 ≤ len ∧ LX5_readLine_45 (nI len) b (nI 1) f4 (nI (5 * j)) (nI 2) (fun x16 f17 x18 x19 => some (1, x19, x18, f4, f17)) FU 0 n (nI e) ts = some (0, nI s1, nI t1, f4, n1) ∧ f_X11_readsRest (nI 1) b rd (nI len) (nI j) (nI t) (nI s) (nI t) = some (0, rd1, nI t1, nI s1, nI t1)) ∨ (∃ (vs : List Nat) (e1 s1 t1 : Nat) (x1 : Int32), okv 1 vs ∧ Tk len b e1 s1 t1 ∧ LX5_readLine_45 (nI len) b (nI 1) f4 (nI (5 * j)) (nI 2) (fun x16 f17 x18 x19 => some (1, x19, x18, f4, f17)) FU 0 n (nI e) ts = some (1, x1, nI e1, f4, upl n (5 * j) vs) ∧ f_X11_readsRest (nI 1) b rd (nI len) (nI j) (nI t) (nI s) (nI t) = some (1, upl rd (6 * j + 1) vs, nI t1, nI s1, nI t1)) := by
  unfold f_X11_readsRest
  rw [lt_eq, if_neg (show ¬ nI 1 = 0 by decide), if_pos (show nI 1 = 1 by decide)]
  have w1 : (6 : Int32) * nI j + 1 = nI (6 * j + 1) := by rw [show (6 : Int32) * nI j = nI (6 * j) from pk_mul 6 j, nI_1]
  have w2 : (6 : Int32) * nI j + 2 = nI (6 * j + 1 + 1) := by rw [show (6 : Int32) * nI j = nI (6 * j) from pk_mul 6 j]; exact nI_add _ 2
  have fin : ∀ (N : Nat) (n1 : Nat → Int32) (e1 ts1 : Int32), LX5_readLine_45 (nI len) b (nI 1) f4 (nI (5 * j)) (nI 2) (fun x16 f17 x18 x19 => some (1, x19, x18, f4, f17)) (N + 1) (nI 2) n1 e1 ts1 = some (1, ts1, e1, f4, n1) := fun N n1 e1 ts1 => by rw [LX5_readLine_45_s, if_pos (by decide)]
  rcases stp2 hl (kd := 1) (i := 0) (m := 2) (lo := 0) (hi := 11) (f4 := f4) (n := n) (by decide) (by decide) hj hTk (by omega) (by omega) (by rw [if_neg (by decide)]; rfl) (by rw [if_neg (by decide)]; rfl) (fun x16 f17 x18 x19 => some (1, x19, x18, f4, f17)) rd with ⟨a0, c0⟩ | ⟨v0, s1, t1, l0, u0, T1, a0, c0⟩
  · have d0 : f_X11_reads 0 0 11 b rd (nI len) (nI j) (nI t) (nI s) (nI t) = some (0, rd, nI t, nI s, nI t) := c0
    refine Or.inl ⟨s, t, n, rd, Nat.le_trans hTk.2.1 hTk.2.2.1, ?_, ?_⟩
    · exact (a0 5999 _)
    · simp only [d0, sb', if_true, if_neg one_ne, w1, w2, ri_nI (show 6 * j + 1 < 54 by omega) (show (54 : Nat) < 2 ^ 31 by decide), ri_nI (show 6 * j + 1 + 1 < 54 by omega) (show (54 : Nat) < 2 ^ 31 by decide), pk_us]
  · have d0 : f_X11_reads 0 0 11 b rd (nI len) (nI j) (nI t) (nI s) (nI t) = some (1, (upd rd (6 * j + 1) (nI v0)), nI t1, nI s1, nI t1) := c0
    rcases stp2 hl (kd := 1) (i := 1) (m := 2) (lo := 0) (hi := 999) (f4 := f4) (n := (upd n (5 * j) (nI v0))) (by decide) (by decide) hj T1 (by omega) (by omega) (by rw [if_neg (by decide)]; rfl) (by rw [if_neg (by decide)]; rfl) (fun x16 f17 x18 x19 => some (1, x19, x18, f4, f17)) (upd rd (6 * j + 1) (nI v0)) with ⟨a1, c1⟩ | ⟨v1, s2, t2, l1, u1, T2, a1, c1⟩
    · have d1 : f_X11_reads 1 0 999 b (upd rd (6 * j + 1) (nI v0)) (nI len) (nI j) (nI t1) (nI s1) (nI t1) = some (0, (upd rd (6 * j + 1) (nI v0)), nI t1, nI s1, nI t1) := c1
      refine Or.inl ⟨s1, t1, (upd n (5 * j) (nI v0)), (upd rd (6 * j + 1) (nI v0)), Nat.le_trans T1.2.1 T1.2.2.1, ?_, ?_⟩
      · exact ((a0 5999 _).trans (a1 5998 _))
      · simp only [d0, d1, sb', if_true, if_neg one_ne, w1, w2, ri_nI (show 6 * j + 1 < 54 by omega) (show (54 : Nat) < 2 ^ 31 by decide), ri_nI (show 6 * j + 1 + 1 < 54 by omega) (show (54 : Nat) < 2 ^ 31 by decide), pk_us]
    · have d1 : f_X11_reads 1 0 999 b (upd rd (6 * j + 1) (nI v0)) (nI len) (nI j) (nI t1) (nI s1) (nI t1) = some (1, (upd (upd rd (6 * j + 1) (nI v0)) (6 * j + 1 + 1) (nI v1)), nI t2, nI s2, nI t2) := c1
      refine Or.inr ⟨[v0, v1], t1, s2, t2, nI s1, Or.inr (Or.inl ⟨rfl, v0, v1, rfl, by omega⟩), T2, ?_, ?_⟩
      · exact ((a0 5999 _).trans ((a1 5998 _).trans (fin 5997 _ _ _)))
      · simp only [d0, d1, sb', if_true, if_neg one_ne, w1, w2, ri_nI (show 6 * j + 1 < 54 by omega) (show (54 : Nat) < 2 ^ 31 by decide), ri_nI (show 6 * j + 1 + 1 < 54 by omega) (show (54 : Nat) < 2 ^ 31 by decide), pk_us]
        rfl
theorem kd_2 (hl : len ≤ 200) {e s t j : Nat} (hj : j ≤ 8) (hTk : Tk len b e s t) (f4 n rd : Nat → Int32) (ts : Int32) : (∃ (s1 t1 : Nat) (n1 rd1 : Nat → Int32), s1 ≤ len ∧ LX5_readLine_45 (nI len) b (nI 2) f4 (nI (5 * j)) (nI 3) (fun x16 f17 x18 x19 => some (1, x19, x18, f4, f17)) FU 0 n (nI e) ts = some (0, nI s1, nI t1, f4, n1) ∧ f_X11_readsRest (nI 2) b rd (nI len) (nI j) (nI t) (nI s) (nI t) = some (0, rd1, nI t1, nI s1, nI t1)) ∨ (∃ (vs : List Nat) (e1 s1 t1 : Nat) (x1 : Int32), okv 2 vs ∧ Tk len b e1 s1 t1 ∧ LX5_readLine_45 (nI len) b (nI 2) f4 (nI (5 * j)) (nI 3) (fun x16 f17 x18 x19 => some (1, x19, x18, f4, f17)) FU 0 n (nI e) ts = some (1, x1, nI e1, f4, upl n (5 * j) vs) ∧ f_X11_readsRest (nI 2) b rd (nI len) (nI j) (nI t) (nI s) (nI t) = some (1, upl rd (6 * j + 1) vs, nI t1, nI s1, nI t1)) := by
  unfold f_X11_readsRest
  rw [lt_eq, if_neg (show ¬ nI 2 = 0 by decide), if_neg (show ¬ nI 2 = 1 by decide), if_pos (show nI 2 = 2 by decide)]
  have w1 : (6 : Int32) * nI j + 1 = nI (6 * j + 1) := by rw [show (6 : Int32) * nI j = nI (6 * j) from pk_mul 6 j, nI_1]
  have w2 : (6 : Int32) * nI j + 2 = nI (6 * j + 1 + 1) := by rw [show (6 : Int32) * nI j = nI (6 * j) from pk_mul 6 j]; exact nI_add _ 2
  have fin : ∀ (N : Nat) (n1 : Nat → Int32) (e1 ts1 : Int32), LX5_readLine_45 (nI len) b (nI 2) f4 (nI (5 * j)) (nI 3) (fun x16 f17 x18 x19 => some (1, x19, x18, f4, f17)) (N + 1) (nI 3) n1 e1 ts1 = some (1, ts1, e1, f4, n1) := fun N n1 e1 ts1 => by rw [LX5_readLine_45_s, if_pos (by decide)]
  rcases stp2 hl (kd := 2) (i := 0) (m := 3) (lo := 0) (hi := 11) (f4 := f4) (n := n) (by decide) (by decide) hj hTk (by omega) (by omega) (by rw [if_neg (by decide)]; rfl) (by rw [if_neg (by decide)]; rfl) (fun x16 f17 x18 x19 => some (1, x19, x18, f4, f17)) rd with ⟨a0, c0⟩ | ⟨v0, s1, t1, l0, u0, T1, a0, c0⟩
  · have d0 : f_X11_reads 0 0 11 b rd (nI len) (nI j) (nI t) (nI s) (nI t) = some (0, rd, nI t, nI s, nI t) := c0
    refine Or.inl ⟨s, t, n, rd, Nat.le_trans hTk.2.1 hTk.2.2.1, ?_, ?_⟩
    · exact (a0 5999 _)
    · simp only [d0, sb', if_true, if_neg one_ne, w1, w2, ri_nI (show 6 * j + 1 < 54 by omega) (show (54 : Nat) < 2 ^ 31 by decide), ri_nI (show 6 * j + 1 + 1 < 54 by omega) (show (54 : Nat) < 2 ^ 31 by decide), pk_us]
  · have d0 : f_X11_reads 0 0 11 b rd (nI len) (nI j) (nI t) (nI s) (nI t) = some (1, (upd rd (6 * j + 1) (nI v0)), nI t1, nI s1, nI t1) := c0
    rcases stp2 hl (kd := 2) (i := 1) (m := 3) (lo := 0) (hi := 99) (f4 := f4) (n := (upd n (5 * j) (nI v0))) (by decide) (by decide) hj T1 (by omega) (by omega) (by rw [if_neg (by decide)]; rfl) (by rw [if_neg (by decide)]; rfl) (fun x16 f17 x18 x19 => some (1, x19, x18, f4, f17)) (upd rd (6 * j + 1) (nI v0)) with ⟨a1, c1⟩ | ⟨v1, s2, t2, l1, u1, T2, a1, c1⟩
    · have d1 : f_X11_reads 1 0 99 b (upd rd (6 * j + 1) (nI v0)) (nI len) (nI j) (nI t1) (nI s1) (nI t1) = some (0, (upd rd (6 * j + 1) (nI v0)), nI t1, nI s1, nI t1) := c1
      refine Or.inl ⟨s1, t1, (upd n (5 * j) (nI v0)), (upd rd (6 * j + 1) (nI v0)), Nat.le_trans T1.2.1 T1.2.2.1, ?_, ?_⟩
      · exact ((a0 5999 _).trans (a1 5998 _))
      · simp only [d0, d1, sb', if_true, if_neg one_ne, w1, w2, ri_nI (show 6 * j + 1 < 54 by omega) (show (54 : Nat) < 2 ^ 31 by decide), ri_nI (show 6 * j + 1 + 1 < 54 by omega) (show (54 : Nat) < 2 ^ 31 by decide), pk_us]
    · have d1 : f_X11_reads 1 0 99 b (upd rd (6 * j + 1) (nI v0)) (nI len) (nI j) (nI t1) (nI s1) (nI t1) = some (1, (upd (upd rd (6 * j + 1) (nI v0)) (6 * j + 1 + 1) (nI v1)), nI t2, nI s2, nI t2) := c1
      rcases stp2 hl (kd := 2) (i := 2) (m := 3) (lo := 0) (hi := 9999) (f4 := f4) (n := (upd (upd n (5 * j) (nI v0)) (5 * j + 1) (nI v1))) (by decide) (by decide) hj T2 (by omega) (by omega) (by rw [if_neg (by decide)]; rfl) (by rw [if_neg (by decide)]; rfl) (fun x16 f17 x18 x19 => some (1, x19, x18, f4, f17)) (upd (upd rd (6 * j + 1) (nI v0)) (6 * j + 1 + 1) (nI v1)) with ⟨a2, c2⟩ | ⟨v2, s3, t3, l2, u2, T3, a2, c2⟩
      · have d2 : f_X11_reads 2 0 9999 b (upd (upd rd (6 * j + 1) (nI v0)) (6 * j + 1 + 1) (nI v1)) (nI len) (nI j) (nI t2) (nI s2) (nI t2) = some (0, (upd (upd rd (6 * j + 1) (nI v0)) (6 * j + 1 + 1) (nI v1)), nI t2, nI s2, nI t2) := c2
        refine Or.inl ⟨s2, t2, (upd (upd n (5 * j) (nI v0)) (5 * j + 1) (nI v1)), (upd (upd rd (6 * j + 1) (nI v0)) (6 * j + 1 + 1) (nI v1)), Nat.le_trans T2.2.1 T2.2.2.1, ?_, ?_⟩
        · exact ((a0 5999 _).trans ((a1 5998 _).trans (a2 5997 _)))
        · simp only [d0, d1, d2, sb', if_true, if_neg one_ne, w1, w2, ri_nI (show 6 * j + 1 < 54 by omega) (show (54 : Nat) < 2 ^ 31 by decide), ri_nI (show 6 * j + 1 + 1 < 54 by omega) (show (54 : Nat) < 2 ^ 31 by decide), pk_us]
      · have d2 : f_X11_reads 2 0 9999 b (upd (upd rd (6 * j + 1) (nI v0)) (6 * j + 1 + 1) (nI v1)) (nI len) (nI j) (nI t2) (nI s2) (nI t2) = some (1, (upd (upd (upd rd (6 * j + 1) (nI v0)) (6 * j + 1 + 1) (nI v1)) (6 * j + 1 + 1 + 1) (nI v2)), nI t3, nI s3, nI t3) := c2
        refine Or.inr ⟨[v0, v1, v2], t2, s3, t3, nI s2, Or.inr (Or.inr (Or.inl ⟨rfl, v0, v1, v2, rfl, by omega⟩)), T3, ?_, ?_⟩
        · exact ((a0 5999 _).trans ((a1 5998 _).trans ((a2 5997 _).trans (fin 5996 _ _ _))))
        · simp only [d0, d1, d2, sb', if_true, if_neg one_ne, w1, w2, ri_nI (show 6 * j + 1 < 54 by omega) (show (54 : Nat) < 2 ^ 31 by decide), ri_nI (show 6 * j + 1 + 1 < 54 by omega) (show (54 : Nat) < 2 ^ 31 by decide), pk_us]
          rfl
theorem kd_3 (hl : len ≤ 200) {e s t j : Nat} (hj : j ≤ 8) (hTk : Tk len b e s t) (f4 n rd : Nat → Int32) (ts : Int32) : (∃ (s1 t1 : Nat) (n1 rd1 : Nat → Int32), s1 ≤ len ∧ LX5_readLine_45 (nI len) b (nI 3) f4 (nI (5 * j)) (nI 3) (fun x16 f17 x18 x19 => some (1, x19, x18, f4, f17)) FU 0 n (nI e) ts = some (0, nI s1, nI t1, f4, n1) ∧ f_X11_readsRest (nI 3) b rd (nI len) (nI j) (nI t) (nI s) (nI t) = some (0, rd1, nI t1, nI s1, nI t1)) ∨ (∃ (vs : List Nat) (e1 s1 t1 : Nat) (x1 : Int32), okv 3 vs ∧ Tk len b e1 s1 t1 ∧ LX5_readLine_45 (nI len) b (nI 3) f4 (nI (5 * j)) (nI 3) (fun x16 f17 x18 x19 => some (1, x19, x18, f4, f17)) FU 0 n (nI e) ts = some (1, x1, nI e1, f4, upl n (5 * j) vs) ∧ f_X11_readsRest (nI 3) b rd (nI len) (nI j) (nI t) (nI s) (nI t) = some (1, upl rd (6 * j + 1) vs, nI t1, nI s1, nI t1)) := by
  unfold f_X11_readsRest
  rw [lt_eq, if_neg (show ¬ nI 3 = 0 by decide), if_neg (show ¬ nI 3 = 1 by decide), if_neg (show ¬ nI 3 = 2 by decide), if_pos (show nI 3 = 3 by decide)]
  have w1 : (6 : Int32) * nI j + 1 = nI (6 * j + 1) := by rw [show (6 : Int32) * nI j = nI (6 * j) from pk_mul 6 j, nI_1]
  have w2 : (6 : Int32) * nI j + 2 = nI (6 * j + 1 + 1) := by rw [show (6 : Int32) * nI j = nI (6 * j) from pk_mul 6 j]; exact nI_add _ 2
  have fin : ∀ (N : Nat) (n1 : Nat → Int32) (e1 ts1 : Int32), LX5_readLine_45 (nI len) b (nI 3) f4 (nI (5 * j)) (nI 3) (fun x16 f17 x18 x19 => some (1, x19, x18, f4, f17)) (N + 1) (nI 3) n1 e1 ts1 = some (1, ts1, e1, f4, n1) := fun N n1 e1 ts1 => by rw [LX5_readLine_45_s, if_pos (by decide)]
  rcases stp2 hl (kd := 3) (i := 0) (m := 3) (lo := 0) (hi := 11) (f4 := f4) (n := n) (by decide) (by decide) hj hTk (by omega) (by omega) (by rw [if_pos (by decide), if_neg (by decide)]; rfl) (by rw [if_neg (by decide)]; rfl) (fun x16 f17 x18 x19 => some (1, x19, x18, f4, f17)) rd with ⟨a0, c0⟩ | ⟨v0, s1, t1, l0, u0, T1, a0, c0⟩
  · have d0 : f_X11_reads 0 0 11 b rd (nI len) (nI j) (nI t) (nI s) (nI t) = some (0, rd, nI t, nI s, nI t) := c0
    refine Or.inl ⟨s, t, n, rd, Nat.le_trans hTk.2.1 hTk.2.2.1, ?_, ?_⟩
    · exact (a0 5999 _)
    · simp only [d0, sb', if_true, if_neg one_ne, w1, w2, ri_nI (show 6 * j + 1 < 54 by omega) (show (54 : Nat) < 2 ^ 31 by decide), ri_nI (show 6 * j + 1 + 1 < 54 by omega) (show (54 : Nat) < 2 ^ 31 by decide), pk_us]
  · have d0 : f_X11_reads 0 0 11 b rd (nI len) (nI j) (nI t) (nI s) (nI t) = some (1, (upd rd (6 * j + 1) (nI v0)), nI t1, nI s1, nI t1) := c0
    rcases stp2 hl (kd := 3) (i := 1) (m := 3) (lo := 0) (hi := 23) (f4 := f4) (n := (upd n (5 * j) (nI v0))) (by decide) (by decide) hj T1 (by omega) (by omega) (by rw [if_pos (by decide), if_neg (by decide)]; rfl) (by rw [if_neg (by decide)]; rfl) (fun x16 f17 x18 x19 => some (1, x19, x18, f4, f17)) (upd rd (6 * j + 1) (nI v0)) with ⟨a1, c1⟩ | ⟨v1, s2, t2, l1, u1, T2, a1, c1⟩
    · have d1 : f_X11_reads 1 0 23 b (upd rd (6 * j + 1) (nI v0)) (nI len) (nI j) (nI t1) (nI s1) (nI t1) = some (0, (upd rd (6 * j + 1) (nI v0)), nI t1, nI s1, nI t1) := c1
      refine Or.inl ⟨s1, t1, (upd n (5 * j) (nI v0)), (upd rd (6 * j + 1) (nI v0)), Nat.le_trans T1.2.1 T1.2.2.1, ?_, ?_⟩
      · exact ((a0 5999 _).trans (a1 5998 _))
      · simp only [d0, d1, sb', if_true, if_neg one_ne, w1, w2, ri_nI (show 6 * j + 1 < 54 by omega) (show (54 : Nat) < 2 ^ 31 by decide), ri_nI (show 6 * j + 1 + 1 < 54 by omega) (show (54 : Nat) < 2 ^ 31 by decide), pk_us]
    · have d1 : f_X11_reads 1 0 23 b (upd rd (6 * j + 1) (nI v0)) (nI len) (nI j) (nI t1) (nI s1) (nI t1) = some (1, (upd (upd rd (6 * j + 1) (nI v0)) (6 * j + 1 + 1) (nI v1)), nI t2, nI s2, nI t2) := c1
      rcases stp2 hl (kd := 3) (i := 2) (m := 3) (lo := v1) (hi := 23) (f4 := f4) (n := (upd (upd n (5 * j) (nI v0)) (5 * j + 1) (nI v1))) (by decide) (by decide) hj T2 (by omega) (by omega) (by rw [if_pos (by decide), if_pos (by decide), nI_1, ri_nI (by omega) (by decide), pk_us]) (by rw [if_neg (by decide)]; rfl) (fun x16 f17 x18 x19 => some (1, x19, x18, f4, f17)) (upd (upd rd (6 * j + 1) (nI v0)) (6 * j + 1 + 1) (nI v1)) with ⟨a2, c2⟩ | ⟨v2, s3, t3, l2, u2, T3, a2, c2⟩
      · have d2 : f_X11_reads 2 (nI v1) 23 b (upd (upd rd (6 * j + 1) (nI v0)) (6 * j + 1 + 1) (nI v1)) (nI len) (nI j) (nI t2) (nI s2) (nI t2) = some (0, (upd (upd rd (6 * j + 1) (nI v0)) (6 * j + 1 + 1) (nI v1)), nI t2, nI s2, nI t2) := c2
        refine Or.inl ⟨s2, t2, (upd (upd n (5 * j) (nI v0)) (5 * j + 1) (nI v1)), (upd (upd rd (6 * j + 1) (nI v0)) (6 * j + 1 + 1) (nI v1)), Nat.le_trans T2.2.1 T2.2.2.1, ?_, ?_⟩
        · exact ((a0 5999 _).trans ((a1 5998 _).trans (a2 5997 _)))
        · simp only [d0, d1, d2, sb', if_true, if_neg one_ne, w1, w2, ri_nI (show 6 * j + 1 < 54 by omega) (show (54 : Nat) < 2 ^ 31 by decide), ri_nI (show 6 * j + 1 + 1 < 54 by omega) (show (54 : Nat) < 2 ^ 31 by decide), pk_us]
      · have d2 : f_X11_reads 2 (nI v1) 23 b (upd (upd rd (6 * j + 1) (nI v0)) (6 * j + 1 + 1) (nI v1)) (nI len) (nI j) (nI t2) (nI s2) (nI t2) = some (1, (upd (upd (upd rd (6 * j + 1) (nI v0)) (6 * j + 1 + 1) (nI v1)) (6 * j + 1 + 1 + 1) (nI v2)), nI t3, nI s3, nI t3) := c2
        refine Or.inr ⟨[v0, v1, v2], t2, s3, t3, nI s2, Or.inr (Or.inr (Or.inr (Or.inl ⟨rfl, v0, v1, v2, rfl, by omega⟩))), T3, ?_, ?_⟩
        · exact ((a0 5999 _).trans ((a1 5998 _).trans ((a2 5997 _).trans (fin 5996 _ _ _))))
        · simp only [d0, d1, d2, sb', if_true, if_neg one_ne, w1, w2, ri_nI (show 6 * j + 1 < 54 by omega) (show (54 : Nat) < 2 ^ 31 by decide), ri_nI (show 6 * j + 1 + 1 < 54 by omega) (show (54 : Nat) < 2 ^ 31 by decide), pk_us]
          rfl
theorem kd_4 (hl : len ≤ 200) {e s t j : Nat} (hj : j ≤ 8) (hTk : Tk len b e s t) (f4 n rd : Nat → Int32) (ts : Int32) : (∃ (s1 t1 : Nat) (n1 rd1 : Nat → Int32), s1 ≤ len ∧ LX5_readLine_45 (nI len) b (nI 4) f4 (nI (5 * j)) (nI 2) (fun x16 f17 x18 x19 => some (1, x19, x18, f4, f17)) FU 0 n (nI e) ts = some (0, nI s1, nI t1, f4, n1) ∧ f_X11_readsRest (nI 4) b rd (nI len) (nI j) (nI t) (nI s) (nI t) = some (0, rd1, nI t1, nI s1, nI t1)) ∨ (∃ (vs : List Nat) (e1 s1 t1 : Nat) (x1 : Int32), okv 4 vs ∧ Tk len b e1 s1 t1 ∧ LX5_readLine_45 (nI len) b (nI 4) f4 (nI (5 * j)) (nI 2) (fun x16 f17 x18 x19 => some (1, x19, x18, f4, f17)) FU 0 n (nI e) ts = some (1, x1, nI e1, f4, upl n (5 * j) vs) ∧ f_X11_readsRest (nI 4) b rd (nI len) (nI j) (nI t) (nI s) (nI t) = some (1, upl rd (6 * j + 1) vs, nI t1, nI s1, nI t1)) := by
  unfold f_X11_readsRest
  rw [lt_eq, if_neg (show ¬ nI 4 = 0 by decide), if_neg (show ¬ nI 4 = 1 by decide), if_neg (show ¬ nI 4 = 2 by decide), if_neg (show ¬ nI 4 = 3 by decide), if_pos (show nI 4 = 4 by decide)]
  have w1 : (6 : Int32) * nI j + 1 = nI (6 * j + 1) := by rw [show (6 : Int32) * nI j = nI (6 * j) from pk_mul 6 j, nI_1]
  have w2 : (6 : Int32) * nI j + 2 = nI (6 * j + 1 + 1) := by rw [show (6 : Int32) * nI j = nI (6 * j) from pk_mul 6 j]; exact nI_add _ 2
  have fin : ∀ (N : Nat) (n1 : Nat → Int32) (e1 ts1 : Int32), LX5_readLine_45 (nI len) b (nI 4) f4 (nI (5 * j)) (nI 2) (fun x16 f17 x18 x19 => some (1, x19, x18, f4, f17)) (N + 1) (nI 2) n1 e1 ts1 = some (1, ts1, e1, f4, n1) := fun N n1 e1 ts1 => by rw [LX5_readLine_45_s, if_pos (by decide)]
  rcases stp2 hl (kd := 4) (i := 0) (m := 2) (lo := 0) (hi := 23) (f4 := f4) (n := n) (by decide) (by decide) hj hTk (by omega) (by omega) (by rw [if_neg (by decide)]; rfl) (by rw [if_neg (by decide)]; rfl) (fun x16 f17 x18 x19 => some (1, x19, x18, f4, f17)) rd with ⟨a0, c0⟩ | ⟨v0, s1, t1, l0, u0, T1, a0, c0⟩
  · have d0 : f_X11_reads 0 0 23 b rd (nI len) (nI j) (nI t) (nI s) (nI t) = some (0, rd, nI t, nI s, nI t) := c0
    refine Or.inl ⟨s, t, n, rd, Nat.le_trans hTk.2.1 hTk.2.2.1, ?_, ?_⟩
    · exact (a0 5999 _)
    · simp only [d0, sb', if_true, if_neg one_ne, w1, w2, ri_nI (show 6 * j + 1 < 54 by omega) (show (54 : Nat) < 2 ^ 31 by decide), ri_nI (show 6 * j + 1 + 1 < 54 by omega) (show (54 : Nat) < 2 ^ 31 by decide), pk_us]
  · have d0 : f_X11_reads 0 0 23 b rd (nI len) (nI j) (nI t) (nI s) (nI t) = some (1, (upd rd (6 * j + 1) (nI v0)), nI t1, nI s1, nI t1) := c0
    rcases stp2 hl (kd := 4) (i := 1) (m := 2) (lo := 0) (hi := 90) (f4 := f4) (n := (upd n (5 * j) (nI v0))) (by decide) (by decide) hj T1 (by omega) (by omega) (by rw [if_neg (by decide)]; rfl) (by rw [if_neg (by decide)]; rfl) (fun x16 f17 x18 x19 => some (1, x19, x18, f4, f17)) (upd rd (6 * j + 1) (nI v0)) with ⟨a1, c1⟩ | ⟨v1, s2, t2, l1, u1, T2, a1, c1⟩
    · have d1 : f_X11_reads 1 0 90 b (upd rd (6 * j + 1) (nI v0)) (nI len) (nI j) (nI t1) (nI s1) (nI t1) = some (0, (upd rd (6 * j + 1) (nI v0)), nI t1, nI s1, nI t1) := c1
      refine Or.inl ⟨s1, t1, (upd n (5 * j) (nI v0)), (upd rd (6 * j + 1) (nI v0)), Nat.le_trans T1.2.1 T1.2.2.1, ?_, ?_⟩
      · exact ((a0 5999 _).trans (a1 5998 _))
      · simp only [d0, d1, sb', if_true, if_neg one_ne, w1, w2, ri_nI (show 6 * j + 1 < 54 by omega) (show (54 : Nat) < 2 ^ 31 by decide), ri_nI (show 6 * j + 1 + 1 < 54 by omega) (show (54 : Nat) < 2 ^ 31 by decide), pk_us]
    · have d1 : f_X11_reads 1 0 90 b (upd rd (6 * j + 1) (nI v0)) (nI len) (nI j) (nI t1) (nI s1) (nI t1) = some (1, (upd (upd rd (6 * j + 1) (nI v0)) (6 * j + 1 + 1) (nI v1)), nI t2, nI s2, nI t2) := c1
      refine Or.inr ⟨[v0, v1], t1, s2, t2, nI s1, Or.inr (Or.inr (Or.inr (Or.inr (Or.inl ⟨rfl, v0, v1, rfl, by omega⟩)))), T2, ?_, ?_⟩
      · exact ((a0 5999 _).trans ((a1 5998 _).trans (fin 5997 _ _ _)))
      · simp only [d0, d1, sb', if_true, if_neg one_ne, w1, w2, ri_nI (show 6 * j + 1 < 54 by omega) (show (54 : Nat) < 2 ^ 31 by decide), ri_nI (show 6 * j + 1 + 1 < 54 by omega) (show (54 : Nat) < 2 ^ 31 by decide), pk_us]
        rfl
theorem kd_5 (hl : len ≤ 200) {e s t j : Nat} (hj : j ≤ 8) (hTk : Tk len b e s t) (f4 n rd : Nat → Int32) (ts : Int32) : (∃ (s1 t1 : Nat) (n1 rd1 : Nat → Int32), s1 ≤ len ∧ LX5_readLine_45 (nI len) b (nI 5) f4 (nI (5 * j)) (nI 4) (fun x16 f17 x18 x19 => some (1, x19, x18, f4, f17)) FU 0 n (nI e) ts = some (0, nI s1, nI t1, f4, n1) ∧ f_X11_readsRest (nI 5) b rd (nI len) (nI j) (nI t) (nI s) (nI t) = some (0, rd1, nI t1, nI s1, nI t1)) ∨ (∃ (vs : List Nat) (e1 s1 t1 : Nat) (x1 : Int32), okv 5 vs ∧ Tk len b e1 s1 t1 ∧ LX5_readLine_45 (nI len) b (nI 5) f4 (nI (5 * j)) (nI 4) (fun x16 f17 x18 x19 => some (1, x19, x18, f4, f17)) FU 0 n (nI e) ts = some (1, x1, nI e1, f4, upl n (5 * j) vs) ∧ f_X11_readsRest (nI 5) b rd (nI len) (nI j) (nI t) (nI s) (nI t) = some (1, upl rd (6 * j + 1) vs, nI t1, nI s1, nI t1)) := by
  unfold f_X11_readsRest
  rw [lt_eq, if_neg (show ¬ nI 5 = 0 by decide), if_neg (show ¬ nI 5 = 1 by decide), if_neg (show ¬ nI 5 = 2 by decide), if_neg (show ¬ nI 5 = 3 by decide), if_neg (show ¬ nI 5 = 4 by decide), if_pos (show nI 5 = 5 by decide)]
  have w1 : (6 : Int32) * nI j + 1 = nI (6 * j + 1) := by rw [show (6 : Int32) * nI j = nI (6 * j) from pk_mul 6 j, nI_1]
  have w2 : (6 : Int32) * nI j + 2 = nI (6 * j + 1 + 1) := by rw [show (6 : Int32) * nI j = nI (6 * j) from pk_mul 6 j]; exact nI_add _ 2
  have fin : ∀ (N : Nat) (n1 : Nat → Int32) (e1 ts1 : Int32), LX5_readLine_45 (nI len) b (nI 5) f4 (nI (5 * j)) (nI 4) (fun x16 f17 x18 x19 => some (1, x19, x18, f4, f17)) (N + 1) (nI 4) n1 e1 ts1 = some (1, ts1, e1, f4, n1) := fun N n1 e1 ts1 => by rw [LX5_readLine_45_s, if_pos (by decide)]
  rcases stp2 hl (kd := 5) (i := 0) (m := 4) (lo := 0) (hi := 3) (f4 := f4) (n := n) (by decide) (by decide) hj hTk (by omega) (by omega) (by rw [if_neg (by decide)]; rfl) (by rw [if_neg (by decide)]; rfl) (fun x16 f17 x18 x19 => some (1, x19, x18, f4, f17)) rd with ⟨a0, c0⟩ | ⟨v0, s1, t1, l0, u0, T1, a0, c0⟩
  · have d0 : f_X11_reads 0 0 3 b rd (nI len) (nI j) (nI t) (nI s) (nI t) = some (0, rd, nI t, nI s, nI t) := c0
    refine Or.inl ⟨s, t, n, rd, Nat.le_trans hTk.2.1 hTk.2.2.1, ?_, ?_⟩
    · exact (a0 5999 _)
    · simp only [d0, sb', if_true, if_neg one_ne, w1, w2, ri_nI (show 6 * j + 1 < 54 by omega) (show (54 : Nat) < 2 ^ 31 by decide), ri_nI (show 6 * j + 1 + 1 < 54 by omega) (show (54 : Nat) < 2 ^ 31 by decide), pk_us]
  · have d0 : f_X11_reads 0 0 3 b rd (nI len) (nI j) (nI t) (nI s) (nI t) = some (1, (upd rd (6 * j + 1) (nI v0)), nI t1, nI s1, nI t1) := c0
    rcases stp2 hl (kd := 5) (i := 1) (m := 4) (lo := 1) (hi := 9999) (f4 := f4) (n := (upd n (5 * j) (nI v0))) (by decide) (by decide) hj T1 (by omega) (by omega) (by rw [if_neg (by decide)]; rfl) (by rw [if_neg (by decide)]; rfl) (fun x16 f17 x18 x19 => some (1, x19, x18, f4, f17)) (upd rd (6 * j + 1) (nI v0)) with ⟨a1, c1⟩ | ⟨v1, s2, t2, l1, u1, T2, a1, c1⟩
    · have d1 : f_X11_reads 1 1 9999 b (upd rd (6 * j + 1) (nI v0)) (nI len) (nI j) (nI t1) (nI s1) (nI t1) = some (0, (upd rd (6 * j + 1) (nI v0)), nI t1, nI s1, nI t1) := c1
      refine Or.inl ⟨s1, t1, (upd n (5 * j) (nI v0)), (upd rd (6 * j + 1) (nI v0)), Nat.le_trans T1.2.1 T1.2.2.1, ?_, ?_⟩
      · exact ((a0 5999 _).trans (a1 5998 _))
      · simp only [d0, d1, sb', if_true, if_neg one_ne, w1, w2, ri_nI (show 6 * j + 1 < 54 by omega) (show (54 : Nat) < 2 ^ 31 by decide), ri_nI (show 6 * j + 1 + 1 < 54 by omega) (show (54 : Nat) < 2 ^ 31 by decide), pk_us]
    · have d1 : f_X11_reads 1 1 9999 b (upd rd (6 * j + 1) (nI v0)) (nI len) (nI j) (nI t1) (nI s1) (nI t1) = some (1, (upd (upd rd (6 * j + 1) (nI v0)) (6 * j + 1 + 1) (nI v1)), nI t2, nI s2, nI t2) := c1
      rcases stp2 hl (kd := 5) (i := 2) (m := 4) (lo := 0) (hi := 9) (f4 := f4) (n := (upd (upd n (5 * j) (nI v0)) (5 * j + 1) (nI v1))) (by decide) (by decide) hj T2 (by omega) (by omega) (by rw [if_neg (by decide)]; rfl) (by rw [if_neg (by decide)]; rfl) (fun x16 f17 x18 x19 => some (1, x19, x18, f4, f17)) (upd (upd rd (6 * j + 1) (nI v0)) (6 * j + 1 + 1) (nI v1)) with ⟨a2, c2⟩ | ⟨v2, s3, t3, l2, u2, T3, a2, c2⟩
      · have d2 : f_X11_reads 2 0 9 b (upd (upd rd (6 * j + 1) (nI v0)) (6 * j + 1 + 1) (nI v1)) (nI len) (nI j) (nI t2) (nI s2) (nI t2) = some (0, (upd (upd rd (6 * j + 1) (nI v0)) (6 * j + 1 + 1) (nI v1)), nI t2, nI s2, nI t2) := c2
        refine Or.inl ⟨s2, t2, (upd (upd n (5 * j) (nI v0)) (5 * j + 1) (nI v1)), (upd (upd rd (6 * j + 1) (nI v0)) (6 * j + 1 + 1) (nI v1)), Nat.le_trans T2.2.1 T2.2.2.1, ?_, ?_⟩
        · exact ((a0 5999 _).trans ((a1 5998 _).trans (a2 5997 _)))
        · simp only [d0, d1, d2, sb', if_true, if_neg one_ne, w1, w2, ri_nI (show 6 * j + 1 < 54 by omega) (show (54 : Nat) < 2 ^ 31 by decide), ri_nI (show 6 * j + 1 + 1 < 54 by omega) (show (54 : Nat) < 2 ^ 31 by decide), pk_us]
      · have d2 : f_X11_reads 2 0 9 b (upd (upd rd (6 * j + 1) (nI v0)) (6 * j + 1 + 1) (nI v1)) (nI len) (nI j) (nI t2) (nI s2) (nI t2) = some (1, (upd (upd (upd rd (6 * j + 1) (nI v0)) (6 * j + 1 + 1) (nI v1)) (6 * j + 1 + 1 + 1) (nI v2)), nI t3, nI s3, nI t3) := c2
        rcases stp2 hl (kd := 5) (i := 3) (m := 4) (lo := 0) (hi := 9) (f4 := f4) (n := (upd (upd (upd n (5 * j) (nI v0)) (5 * j + 1) (nI v1)) (5 * j + 1 + 1) (nI v2))) (by decide) (by decide) hj T3 (by omega) (by omega) (by rw [if_neg (by decide)]; rfl) (by rw [if_neg (by decide)]; rfl) (fun x16 f17 x18 x19 => some (1, x19, x18, f4, f17)) (upd (upd (upd rd (6 * j + 1) (nI v0)) (6 * j + 1 + 1) (nI v1)) (6 * j + 1 + 1 + 1) (nI v2)) with ⟨a3, c3⟩ | ⟨v3, s4, t4, l3, u3, T4, a3, c3⟩
        · have d3 : f_X11_reads 3 0 9 b (upd (upd (upd rd (6 * j + 1) (nI v0)) (6 * j + 1 + 1) (nI v1)) (6 * j + 1 + 1 + 1) (nI v2)) (nI len) (nI j) (nI t3) (nI s3) (nI t3) = some (0, (upd (upd (upd rd (6 * j + 1) (nI v0)) (6 * j + 1 + 1) (nI v1)) (6 * j + 1 + 1 + 1) (nI v2)), nI t3, nI s3, nI t3) := c3
          refine Or.inl ⟨s3, t3, (upd (upd (upd n (5 * j) (nI v0)) (5 * j + 1) (nI v1)) (5 * j + 1 + 1) (nI v2)), (upd (upd (upd rd (6 * j + 1) (nI v0)) (6 * j + 1 + 1) (nI v1)) (6 * j + 1 + 1 + 1) (nI v2)), Nat.le_trans T3.2.1 T3.2.2.1, ?_, ?_⟩
          · exact ((a0 5999 _).trans ((a1 5998 _).trans ((a2 5997 _).trans (a3 5996 _))))
          · simp only [d0, d1, d2, d3, sb', if_true, if_neg one_ne, w1, w2, ri_nI (show 6 * j + 1 < 54 by omega) (show (54 : Nat) < 2 ^ 31 by decide), ri_nI (show 6 * j + 1 + 1 < 54 by omega) (show (54 : Nat) < 2 ^ 31 by decide), pk_us]
        · have d3 : f_X11_reads 3 0 9 b (upd (upd (upd rd (6 * j + 1) (nI v0)) (6 * j + 1 + 1) (nI v1)) (6 * j + 1 + 1 + 1) (nI v2)) (nI len) (nI j) (nI t3) (nI s3) (nI t3) = some (1, (upd (upd (upd (upd rd (6 * j + 1) (nI v0)) (6 * j + 1 + 1) (nI v1)) (6 * j + 1 + 1 + 1) (nI v2)) (6 * j + 1 + 1 + 1 + 1) (nI v3)), nI t4, nI s4, nI t4) := c3
          refine Or.inr ⟨[v0, v1, v2, v3], t3, s4, t4, nI s3, Or.inr (Or.inr (Or.inr (Or.inr (Or.inr (Or.inl ⟨rfl, v0, v1, v2, v3, rfl, by omega⟩))))), T4, ?_, ?_⟩
          · exact ((a0 5999 _).trans ((a1 5998 _).trans ((a2 5997 _).trans ((a3 5996 _).trans (fin 5995 _ _ _)))))
          · simp only [d0, d1, d2, d3, sb', if_true, if_neg one_ne, w1, w2, ri_nI (show 6 * j + 1 < 54 by omega) (show (54 : Nat) < 2 ^ 31 by decide), ri_nI (show 6 * j + 1 + 1 < 54 by omega) (show (54 : Nat) < 2 ^ 31 by decide), pk_us]
            rfl
theorem kd_6 (hl : len ≤ 200) {e s t j : Nat} (hj : j ≤ 8) (hTk : Tk len b e s t) (f4 n rd : Nat → Int32) (ts : Int32) : (∃ (s1 t1 : Nat) (n1 rd1 : Nat → Int32), s1 ≤ len ∧ LX5_readLine_45 (nI len) b (nI 6) f4 (nI (5 * j)) (nI 1) (fun x16 f17 x18 x19 => some (1, x19, x18, f4, f17)) FU 0 n (nI e) ts = some (0, nI s1, nI t1, f4, n1) ∧ f_X11_readsRest (nI 6) b rd (nI len) (nI j) (nI t) (nI s) (nI t) = some (0, rd1, nI t1, nI s1, nI t1)) ∨ (∃ (vs : List Nat) (e1 s1 t1 : Nat) (x1 : Int32), okv 6 vs ∧ Tk len b e1 s1 t1 ∧ LX5_readLine_45 (nI len) b (nI 6) f4 (nI (5 * j)) (nI 1) (fun x16 f17 x18 x19 => some (1, x19, x18, f4, f17)) FU 0 n (nI e) ts = some (1, x1, nI e1, f4, upl n (5 * j) vs) ∧ f_X11_readsRest (nI 6) b rd (nI len) (nI j) (nI t) (nI s) (nI t) = some (1, upl rd (6 * j + 1) vs, nI t1, nI s1, nI t1)) := by
  unfold f_X11_readsRest
  rw [lt_eq, if_neg (show ¬ nI 6 = 0 by decide), if_neg (show ¬ nI 6 = 1 by decide), if_neg (show ¬ nI 6 = 2 by decide), if_neg (show ¬ nI 6 = 3 by decide), if_neg (show ¬ nI 6 = 4 by decide), if_neg (show ¬ nI 6 = 5 by decide), if_pos (show nI 6 = 6 by decide)]
  have w1 : (6 : Int32) * nI j + 1 = nI (6 * j + 1) := by rw [show (6 : Int32) * nI j = nI (6 * j) from pk_mul 6 j, nI_1]
  have w2 : (6 : Int32) * nI j + 2 = nI (6 * j + 1 + 1) := by rw [show (6 : Int32) * nI j = nI (6 * j) from pk_mul 6 j]; exact nI_add _ 2
  have fin : ∀ (N : Nat) (n1 : Nat → Int32) (e1 ts1 : Int32), LX5_readLine_45 (nI len) b (nI 6) f4 (nI (5 * j)) (nI 1) (fun x16 f17 x18 x19 => some (1, x19, x18, f4, f17)) (N + 1) (nI 1) n1 e1 ts1 = some (1, ts1, e1, f4, n1) := fun N n1 e1 ts1 => by rw [LX5_readLine_45_s, if_pos (by decide)]
  rcases stp2 hl (kd := 6) (i := 0) (m := 1) (lo := 0) (hi := 60) (f4 := f4) (n := n) (by decide) (by decide) hj hTk (by omega) (by omega) (by rw [if_neg (by decide)]; rfl) (by rw [if_neg (by decide)]; rfl) (fun x16 f17 x18 x19 => some (1, x19, x18, f4, f17)) rd with ⟨a0, c0⟩ | ⟨v0, s1, t1, l0, u0, T1, a0, c0⟩
  · have d0 : f_X11_reads 0 0 60 b rd (nI len) (nI j) (nI t) (nI s) (nI t) = some (0, rd, nI t, nI s, nI t) := c0
    refine Or.inl ⟨s, t, n, rd, Nat.le_trans hTk.2.1 hTk.2.2.1, ?_, ?_⟩
    · exact (a0 5999 _)
    · simp only [d0, sb', if_true, if_neg one_ne, w1, w2, ri_nI (show 6 * j + 1 < 54 by omega) (show (54 : Nat) < 2 ^ 31 by decide), ri_nI (show 6 * j + 1 + 1 < 54 by omega) (show (54 : Nat) < 2 ^ 31 by decide), pk_us]
  · have d0 : f_X11_reads 0 0 60 b rd (nI len) (nI j) (nI t) (nI s) (nI t) = some (1, (upd rd (6 * j + 1) (nI v0)), nI t1, nI s1, nI t1) := c0
    refine Or.inr ⟨[v0], t, s1, t1, nI s, Or.inr (Or.inr (Or.inr (Or.inr (Or.inr (Or.inr (Or.inl ⟨rfl, v0, rfl, by omega⟩)))))), T1, ?_, ?_⟩
    · exact ((a0 5999 _).trans (fin 5998 _ _ _))
    · simp only [d0, sb', if_true, if_neg one_ne, w1, w2, ri_nI (show 6 * j + 1 < 54 by omega) (show (54 : Nat) < 2 ^ 31 by decide), ri_nI (show 6 * j + 1 + 1 < 54 by omega) (show (54 : Nat) < 2 ^ 31 by decide), pk_us]
      rfl
theorem kd_7 (hl : len ≤ 200) {e s t j : Nat} (hj : j ≤ 8) (hTk : Tk len b e s t) (f4 n rd : Nat → Int32) (ts : Int32) : (∃ (s1 t1 : Nat) (n1 rd1 : Nat → Int32), s1 ≤ len ∧ LX5_readLine_45 (nI len) b (nI 7) f4 (nI (5 * j)) (nI 1) (fun x16 f17 x18 x19 => some (1, x19, x18, f4, f17)) FU 0 n (nI e) ts = some (0, nI s1, nI t1, f4, n1) ∧ f_X11_readsRest (nI 7) b rd (nI len) (nI j) (nI t) (nI s) (nI t) = some (0, rd1, nI t1, nI s1, nI t1)) ∨ (∃ (vs : List Nat) (e1 s1 t1 : Nat) (x1 : Int32), okv 7 vs ∧ Tk len b e1 s1 t1 ∧ LX5_readLine_45 (nI len) b (nI 7) f4 (nI (5 * j)) (nI 1) (fun x16 f17 x18 x19 => some (1, x19, x18, f4, f17)) FU 0 n (nI e) ts = some (1, x1, nI e1, f4, upl n (5 * j) vs) ∧ f_X11_readsRest (nI 7) b rd (nI len) (nI j) (nI t) (nI s) (nI t) = some (1, upl rd (6 * j + 1) vs, nI t1, nI s1, nI t1)) := by
  unfold f_X11_readsRest
  rw [lt_eq, if_neg (show ¬ nI 7 = 0 by decide), if_neg (show ¬ nI 7 = 1 by decide), if_neg (show ¬ nI 7 = 2 by decide), if_neg (show ¬ nI 7 = 3 by decide), if_neg (show ¬ nI 7 = 4 by decide), if_neg (show ¬ nI 7 = 5 by decide), if_neg (show ¬ nI 7 = 6 by decide)]
  have w1 : (6 : Int32) * nI j + 1 = nI (6 * j + 1) := by rw [show (6 : Int32) * nI j = nI (6 * j) from pk_mul 6 j, nI_1]
  have w2 : (6 : Int32) * nI j + 2 = nI (6 * j + 1 + 1) := by rw [show (6 : Int32) * nI j = nI (6 * j) from pk_mul 6 j]; exact nI_add _ 2
  have fin : ∀ (N : Nat) (n1 : Nat → Int32) (e1 ts1 : Int32), LX5_readLine_45 (nI len) b (nI 7) f4 (nI (5 * j)) (nI 1) (fun x16 f17 x18 x19 => some (1, x19, x18, f4, f17)) (N + 1) (nI 1) n1 e1 ts1 = some (1, ts1, e1, f4, n1) := fun N n1 e1 ts1 => by rw [LX5_readLine_45_s, if_pos (by decide)]
  rcases stp2 hl (kd := 7) (i := 0) (m := 1) (lo := 0) (hi := 99) (f4 := f4) (n := n) (by decide) (by decide) hj hTk (by omega) (by omega) (by rw [if_neg (by decide)]; rfl) (by rw [if_neg (by decide)]; rfl) (fun x16 f17 x18 x19 => some (1, x19, x18, f4, f17)) rd with ⟨a0, c0⟩ | ⟨v0, s1, t1, l0, u0, T1, a0, c0⟩
  · have d0 : f_X11_reads 0 0 99 b rd (nI len) (nI j) (nI t) (nI s) (nI t) = some (0, rd, nI t, nI s, nI t) := c0
    refine Or.inl ⟨s, t, n, rd, Nat.le_trans hTk.2.1 hTk.2.2.1, ?_, ?_⟩
    · exact (a0 5999 _)
    · simp only [d0, sb', if_true, if_neg one_ne, w1, w2, ri_nI (show 6 * j + 1 < 54 by omega) (show (54 : Nat) < 2 ^ 31 by decide), ri_nI (show 6 * j + 1 + 1 < 54 by omega) (show (54 : Nat) < 2 ^ 31 by decide), pk_us]
  · have d0 : f_X11_reads 0 0 99 b rd (nI len) (nI j) (nI t) (nI s) (nI t) = some (1, (upd rd (6 * j + 1) (nI v0)), nI t1, nI s1, nI t1) := c0
    refine Or.inr ⟨[v0], t, s1, t1, nI s, Or.inr (Or.inr (Or.inr (Or.inr (Or.inr (Or.inr (Or.inr (⟨rfl, v0, rfl, by omega⟩))))))), T1, ?_, ?_⟩
    · exact ((a0 5999 _).trans (fin 5998 _ _ _))
    · simp only [d0, sb', if_true, if_neg one_ne, w1, w2, ri_nI (show 6 * j + 1 < 54 by omega) (show (54 : Nat) < 2 ^ 31 by decide), ri_nI (show 6 * j + 1 + 1 < 54 by omega) (show (54 : Nat) < 2 ^ 31 by decide), pk_us]
      rfl
end
