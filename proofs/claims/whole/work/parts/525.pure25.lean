/-! a day by draws -/
def sdN (s : Nat) : Nat := (s * 25173 + 13849) % 65536
theorem sd_lt (s : Nat) : sdN s < 65536 := Nat.mod_lt _ (by decide)
theorem draw10 {s : Nat} (hs : s < 65536) : f_X0_draw (nI s) = some (nI (sdN s / 64), nI (sdN s)) := by
  unfold f_X0_draw
  have e1 : nI s * 25173 + 13849 = nI (s * 25173 + 13849) := by
    rw [show nI s * 25173 = nI (s * 25173) from pk_mul s 25173, show (13849 : Int32) = nI 13849 from rfl, nI_add]
  have e2 : nI (s * 25173 + 13849) &&& 65535 = nI ((s * 25173 + 13849) % 2 ^ 16) := pk_andN (by omega) 16 (by decide)
  have h := sd_lt s
  rw [e1, e2, lt_eq, nz_ok (by decide)]
  show some (nI (sdN s) / 64, nI (sdN s)) = _
  rw [show nI (sdN s) / 64 = nI (sdN s / 64) from pk_div (d := 64) (by omega) (by decide) (by decide)]
theorem draw11 {s m : Nat} (hs : s < 65536) (h0 : 0 < m) (hm : m < 2 ^ 31) : f_X11_draw (nI m) (nI s) = some (nI (sdN s / 64 % m), nI (sdN s)) := by
  unfold f_X11_draw
  have e1 : nI s * 25173 + 13849 = nI (s * 25173 + 13849) := by
    rw [show nI s * 25173 = nI (s * 25173) from pk_mul s 25173, show (13849 : Int32) = nI 13849 from rfl, nI_add]
  have e2 : nI (s * 25173 + 13849) - nI (s * 25173 + 13849) / 65536 * 65536 = nI (sdN s) := pk_rem (d := 65536) (by omega) (by decide) (by decide)
  have h := sd_lt s
  rw [e1, nz_ok (by decide), lt_eq, e2, nz_ok (by decide), nz_ok (nI_ne0 h0 hm), show nI (sdN s) / 64 = nI (sdN s / 64) from pk_div (d := 64) (by omega) (by decide) (by decide), pk_rem (by omega) h0 hm]
theorem has01 (s p : Int32) : ∃ b : Int32, (b = 0 ∨ b = 1) ∧ f_X10_has s p = some b ∧ f_X11_has s p = some b := by
  rw [hasE]
  unfold f_X11_has
  split
  · exact ⟨1, Or.inr rfl, rfl, rfl⟩
  · exact ⟨0, Or.inl rfl, rfl, rfl⟩
theorem drawS2 {th : Int32} {lk : Nat → Int32} (hlk : Bd lk 12 99) (h0 : srN th lk ≠ 0) {s : Nat} (hs : s < 65536) : ∃ r : Int32, f_X0_drawSource lk (nI (srN th lk)) (nI s) = some (r, nI (sdN s)) ∧ f_X11_drawSource (nI (srN th lk)) lk (nI s) = some (r, nI (sdN s)) := by
  unfold f_X0_drawSource f_X11_drawSource
  have hl := sr_lt th lk
  have b2 := (lS_e hlk (srN th lk) 12 (Nat.le_refl _)).2
  have b3 := lk_pos hlk h0
  have el : lS lk (srN th lk) 12 = lkS lk (srN th lk) := rfl
  have e1 : (if (1 : Int32) < nI (lkS lk (srN th lk)) then nI (lkS lk (srN th lk)) else 1) = nI (lkS lk (srN th lk)) := by
    by_cases q : 1 < lkS lk (srN th lk)
    · rw [if_pos (show (1 : Int32) < nI (lkS lk (srN th lk)) from nI_lt (a := 1) q (by omega))]
    · rw [if_neg (show ¬ (1 : Int32) < nI (lkS lk (srN th lk)) from fun w => q ((nI_ltI (a := 1) (by decide) (by omega)).mp w)), show lkS lk (srN th lk) = 1 by omega]; rfl
  have h := sd_lt s
  rw [draw10 hs, sb', lik10 hl, lik11 hl, (lS_e hlk (srN th lk) 12 (Nat.le_refl _)).1, el, sb', sb', e1, lt_eq, nz_ok (nI_ne0 (by omega) (by omega)), draw11 hs (by omega) (by omega), sb']
  try dsimp only
  rw [pk_rem (by omega) (by omega) (by omega), lt_eq]
  have key := its2 (S := Int32) (T := Int32) 12 (fun _ x y => x = y ∧ ∃ k, k < 65536 ∧ x = nI k) (fun N i x => LX0_drawSource_26 lk (nI (srN th lk)) (nI (sdN s / 64), nI (sdN s)) (fun _ _ => some ((-1), nI (sdN s))) N x (nI i)) (fun N i x => LX11_drawSource_12 (nI (srN th lk)) lk (nI (sdN s / 64 % lkS lk (srN th lk)), nI (sdN s)) (fun _ _ => some ((-1), nI (sdN s))) N x (nI i)) (fun r => r.2 = nI (sdN s)) (by
    rintro N x y ⟨rfl, _⟩
    refine ⟨(-1, nI (sdN s)), rfl, ?_, ?_⟩
    · show LX0_drawSource_26 lk (nI (srN th lk)) _ _ (N + 1) x (nI 12) = _
      rw [LX0_drawSource_26_s, if_pos (by decide)]
    · show LX11_drawSource_12 (nI (srN th lk)) lk _ _ (N + 1) x (nI 12) = _
      rw [LX11_drawSource_12_s, if_pos (by decide)]) (by
    rintro N i x y hi ⟨rfl, k, hk, rfl⟩
    try dsimp only
    rw [LX0_drawSource_26_s, if_neg (lt12 hi), LX11_drawSource_12_s, if_neg (lt12 hi), has10, has11, sb', sb', hb_nI (by omega) (by omega)]
    by_cases q : (srN th lk).testBit i = true
    · obtain ⟨e, b⟩ := vl_e hlk (by decide) hi
      rw [if_pos q, if_neg one_ne, if_neg one_ne, ri_nI hi (by decide), ri_nI hi (by decide), ri_nI hi (by decide), e, lt_eq]
      by_cases w : vl lk i ≤ k
      · rw [pk_sub w, if_pos (nI_pos' (by omega)), if_pos (nI_le w (by omega)), lt_eq, lt_eq, lt_eq, nI_1]
        exact Or.inr ⟨_, _, ⟨rfl, k - vl lk i, by omega, rfl⟩, rfl, rfl⟩
      · have := pk_sneg (a := k) (b := vl lk i) (by omega) (by omega)
        rw [if_neg (Int32.not_le.mpr this), if_neg (nI_ge (by omega) (by omega))]
        exact Or.inl ⟨(nI i, nI (sdN s)), rfl, rfl, rfl⟩
    · rw [if_neg q, if_pos rfl, if_pos rfl, lt_eq, lt_eq, nI_1]
      exact Or.inr ⟨_, _, ⟨rfl, k, hk, rfl⟩, rfl, rfl⟩) FU 0 (nI (sdN s / 64 % lkS lk (srN th lk))) (nI (sdN s / 64 % lkS lk (srN th lk))) (by omega) (fu_lt (by omega)) ⟨rfl, _, by
      have : sdN s / 64 % lkS lk (srN th lk) ≤ sdN s / 64 := Nat.mod_le _ _
      omega, rfl⟩
  obtain ⟨⟨r1, r2⟩, e, k1, k2⟩ := key
  dsimp only at e
  subst e
  exact ⟨r1, k1, k2⟩
theorem least2 {s : Nat} (hs : s < 4096) (h0 : s ≠ 0) : ∃ r : Int32, f_X0_leastOf (nI s) = some r ∧ f_X11_least (nI s) = some r := by
  unfold f_X0_leastOf f_X11_least
  obtain ⟨x, hx, hb'⟩ := bit_ex h0 hs
  obtain ⟨r, _, k1, k2⟩ := it2 (R := Int32) x (fun _ => True) (fun N i => LX0_leastOf_2 (nI s) (fun _ => some (-1)) N (nI i)) (fun N i => LX11_least_2 (nI s) (fun x2 => some x2) N (nI i)) (by
    intro N
    refine ⟨nI x, trivial, ?_, ?_⟩
    · try dsimp only
      rw [LX0_leastOf_2_s, if_neg (lt12 hx), has10, sb', hb_nI (by omega) (by omega), if_pos hb', if_neg one_ne]
    · try dsimp only
      rw [LX11_least_2_s, has11, sb', hb_nI (by omega) (by omega), if_pos hb', if_neg one_ne]) (by
    intro N i hi
    try dsimp only
    rw [LX0_leastOf_2_s, if_neg (lt12 (by omega)), LX11_least_2_s, has10, has11, sb', sb', hb_nI (by omega) (by omega)]
    by_cases q : s.testBit i = true
    · rw [if_pos q, if_neg one_ne, if_neg one_ne]
      exact Or.inl ⟨nI i, trivial, rfl, rfl⟩
    · rw [if_neg q, if_pos rfl, if_pos rfl, lt_eq, lt_eq, nI_1]
      exact Or.inr ⟨rfl, rfl⟩) FU 0 (by omega) (fu_lt (by omega))
  exact ⟨r, k1, k2⟩
section
variable {th : Int32} {md td wk lk ov fy fn : Nat → Int32}
theorem day2 (hT : Tree th md) (hd : ∀ v, v < 12 → hb th v = true → td v = md v) (hw : Bd wk 12 60) (hlk : Bd lk 12 99) (ho : ∀ x, x < 12 → ov x = nI (ab th md x)) {li N1 : Nat} (hli : li ≤ 60) (hN : N1 ≤ 4096) {few sum mi av ap so : Nat → Int32} {mk : Nat → Prop} (haN : srN th lk < N1) (hmk : ∀ s, mk s → s &&& srN th lk = s ∧ Tb th md wk lk li few sum mi s ∧ ∀ v, v < 12 → spl (ab th md) s v = true → mk (yS (ab th md) s v) ∧ mk (nS (ab th md) s v)) (hav : ∀ x, x < 12 → av x = nI (ab th md x)) (hap : ∀ x y, x < 12 → y < 12 → hb th x = true → hb th y = true → ap (12 * x + y) = wk2 md wk x y) (hso : ∀ s, s < 4096 → s &&& srN th lk = s → ∀ x, x < 12 → hb th x = true → so (12 * s + x) = nI (vS (ab th md) li (wN md wk) s x)) {c : Nat} (hc : c < 4) (q2 : Int32 × Int32) (ko1 : Int32 → Int32 → Int32 → Int32 → Int32 → Int32 → Option (Int32 × (Nat → Int32) × (Nat → Int32) × (Nat → Int32) × Nat × Nat × Nat × Int32 × Int32 × Int32 × Int32 × Int32)) (ko2 : Int32 → Int32 → Int32 → Int32 → Int32 → Option (Int32 × (Nat → Int32) × (Nat → Int32) × (Nat → Int32) × Int32)) : ∀ (k s x i sd : Nat) (t l : Int32), pc s 12 ≤ k → mk s → s ≠ 0 → x < 12 → hb th x = true → i + pc s 12 ≤ 12 → sd < 65536 → ∀ M1 M2, k < M1 → k < M2 → ∃ (s' sd' : Nat) (x' i' t' l' : Int32), s' ≠ 0 ∧ s' < 4096 ∧ LX0_go_44 (nI c) td wk fy fn (nI li) ov (1, few, sum, mi, N1, N1, N1 * 12) q2 ko1 M1 (nI s) (nI x) (nI i) l t (nI sd) = ko1 (nI s') x' i' l' t' (nI sd') ∧ LX11_day_83 (nI c) fy fn th (nI li) (av, ap, so) q2 ko2 M2 (nI s) (nI x) t l (nI sd) = ko2 (nI s') x' t' l' (nI sd') := by
  intro k
  induction k with
  | zero =>
    intro s x i sd t l hk hs h0
    have := pc_pos h0 (sub_lt (hmk s hs).1)
    omega
  | succ k ih =>
    intro s x i sd t l hk hs h0 hx tx hi hsd M1 M2 h1 h2
    obtain ⟨n1, rfl⟩ : ∃ n, M1 = n + 1 := ⟨M1 - 1, by omega⟩
    obtain ⟨n2, rfl⟩ : ∃ n, M2 = n + 1 := ⟨M2 - 1, by omega⟩
    obtain ⟨ssub, _, tp⟩ := hmk s hs
    have hs4 := sub_lt ssub
    have hp := pc_pos h0 hs4
    have hp2 := pc_le s 12
    rw [LX0_go_44_s, if_neg (lt12 (by omega)), bc10 hs4, sb', LX11_day_83_s, many11 hs4, sb']
    by_cases h3 : pc s 12 ≤ 1
    · rw [if_pos ((le1 hp2).mpr h3), if_pos ((le1 hp2).mpr h3)]
      exact ⟨s, sd, _, _, _, _, h0, hs4, rfl, rfl⟩
    · rw [if_neg (fun w => h3 ((le1 hp2).mp w)), if_neg (fun w => h3 ((le1 hp2).mp w))]
      obtain ⟨r, hr, k1, k2⟩ := lid2 hT hd hw hlk ho hli hN haN hmk hav hap hso hs hx tx
      obtain ⟨v, hv, rfl, hP⟩ := hr (by omega)
      have tv := spl_th hT hv hP
      have vn : ¬ nI v = -1 := fun w => by
        have := nI_pos' (n := v) (by omega)
        rw [w] at this
        exact absurd this (by decide)
      have w1 : (12 : Int32) * nI x + nI v = nI (12 * x + v) := by
        rw [show (12 : Int32) * nI x = nI (12 * x) from pk_mul 12 x, nI_add]
      have hsd2 := sd_lt sd
      obtain ⟨b, hb01, hb1, hb2⟩ := has01 (nI (ab th md v)) q2.1
      have rem10 : nI (sdN sd / 64) - nI (sdN sd / 64) / 10 * 10 = nI (sdN sd / 64 % 10) := pk_rem (d := 10) (by omega) (by decide) (by decide)
      have ny : nI s &&& nI (ab th md v) = nI (yS (ab th md) s v) := and_nI _ _
      have nn : nI s &&& (nI (ab th md v) ^^^ (-1)) = nI (nS (ab th md) s v) := andn_nI hs4
      have d11 : f_X11_draw 10 (nI sd) = some (nI (sdN sd / 64 % 10), nI (sdN sd)) := draw11 (m := 10) hsd (by decide) (by decide)
      obtain ⟨c1, c2, c3⟩ := spl_pc hs4 hP
      obtain ⟨ky, kn⟩ := tp v hv hP
      have y0 := (spl_i.mp hP).1
      have n0 := nS_n0 _ s v (spl_i.mp hP).2
      have h10 : ¬ (10 : Int32) = 0 := by decide
      have z1 : ¬ (0 : Int32) = 1 := by decide
      unfold f_X0_drawAnswer
      simp only [k1, k2, sb', if_neg vn, mb10 hT hd hx hv tx tv, lt_eq, ri_nI hv (show (12 : Nat) < 2 ^ 31 by decide), ri_nI hc (show (4 : Nat) < 2 ^ 31 by decide), ho v hv, hav v hv, hb1, hb2, draw10 hsd, d11, w1, ri_nI (show 12 * x + v < 144 by omega) (show (144 : Nat) < 2 ^ 31 by decide), hap x v hx hv tx tv, nz_ok h10, rem10, nI_1]
      have goY : ∀ t l, ∃ (s' sd' : Nat) (x' i' t' l' : Int32), s' ≠ 0 ∧ s' < 4096 ∧ LX0_go_44 (nI c) td wk fy fn (nI li) ov (1, few, sum, mi, N1, N1, N1 * 12) q2 ko1 n1 (nI (yS (ab th md) s v)) (nI v) (nI (i + 1)) l t (nI (sdN sd)) = ko1 (nI s') x' i' l' t' (nI sd') ∧ LX11_day_83 (nI c) fy fn th (nI li) (av, ap, so) q2 ko2 n2 (nI (yS (ab th md) s v)) (nI v) t l (nI (sdN sd)) = ko2 (nI s') x' t' l' (nI sd') := fun t l => ih (yS (ab th md) s v) v (i + 1) (sdN sd) t l (by omega) ky y0 hv tv (by omega) hsd2 n1 n2 (by omega) (by omega)
      have goN : ∀ t l, ∃ (s' sd' : Nat) (x' i' t' l' : Int32), s' ≠ 0 ∧ s' < 4096 ∧ LX0_go_44 (nI c) td wk fy fn (nI li) ov (1, few, sum, mi, N1, N1, N1 * 12) q2 ko1 n1 (nI (nS (ab th md) s v)) (nI v) (nI (i + 1)) l t (nI (sdN sd)) = ko1 (nI s') x' i' l' t' (nI sd') ∧ LX11_day_83 (nI c) fy fn th (nI li) (av, ap, so) q2 ko2 n2 (nI (nS (ab th md) s v)) (nI v) t l (nI (sdN sd)) = ko2 (nI s') x' t' l' (nI sd') := fun t l => ih (nS (ab th md) s v) v (i + 1) (sdN sd) t l (by omega) kn n0 hv tv (by omega) hsd2 n1 n2 (by omega) (by omega)
      rcases hb01 with rfl | rfl
      · simp only [if_true, sb']
        by_cases q : fy c ≤ nI (sdN sd / 64 % 10)
        · simp only [if_pos q, sb', if_true, nn]
          exact goN _ _
        · simp only [if_neg q, sb', if_true, if_neg one_ne, if_neg z1, ny]
          exact goY _ _
      · simp only [if_neg one_ne, sb']
        by_cases q : fn c ≤ nI (sdN sd / 64 % 10)
        · simp only [if_pos q, sb', if_neg one_ne, ny]
          exact goY _ _
        · simp only [if_neg q, sb', if_true, nn]
          exact goN _ _
/-- promise 26 -/
theorem p_day (hT : Tree th md) (hd : ∀ v, v < 12 → hb th v = true → td v = md v) (hn : ∀ v, v < 12 → ¬ hb th v = true → td v = -1) (hw : Bd wk 12 60) (hlk : Bd lk 12 99) (ho : ∀ x, x < 12 → ov x = nI (ab th md x)) {li N1 : Nat} (hli : li ≤ 60) (hN : N1 ≤ 4096) {sv : Int32} {few sum mi : Nat → Int32} (hk : sv = 0 ∨ sv = 1 ∧ Slv th md wk lk li few sum mi N1) (av ap ms : Nat → Int32) (d1 d2 d3 d4 d5 m1 p0 p1 p2 : Int32) : ∃ (r sv' : Int32) (few' sum' mi' : Nat → Int32) (N' : Nat) (d1' d2' d3' d4' d5' m1' : Int32) (av' ap' ms' : Nat → Int32), f_X10_day p0 p1 p2 td wk lk fy fn (nI li) (nI (srN th lk)) ov sv few sum mi N1 N1 (N1 * 12) d1 d2 d3 d4 d5 = some (r, sv', few', sum', mi', N', N', N' * 12, d1', d2', d3', d4', d5') ∧ f_X11_day p0 p1 p2 md wk lk fy fn av ap ms th (nI li) m1 = some (r, av', ap', ms', m1') ∧ N' ≤ 4096 ∧ (sv' = 0 ∨ sv' = 1 ∧ Slv th md wk lk li few' sum' mi' N') := by
  unfold f_X10_day f_X11_day
  rw [cup10, sb', cup11, sb', inI p0 0 65535 (B := 0) (C := 65535) rfl rfl, sb', inI p2 0 3 (B := 0) (C := 3) rfl rfl, sb', src11, sb']
  have rg0 : (0 ≤ p0 ∧ p0 ≤ 65535) ↔ (¬ p0 < 0 ∧ ¬ (65536 : Int32) ≤ p0) := rg (p := p0) (B := 65535) (by decide)
  by_cases h1 : 0 ≤ p1 ∧ p1 ≤ 3
  · obtain ⟨c, hc, rfl⟩ := cup_of h1
    simp only [if_pos h1, if_neg one_ne]
    by_cases h2 : 0 ≤ p0 ∧ p0 ≤ 65535
    · obtain ⟨s, hs, rfl⟩ := rg_of (B := 65535) (by decide) h2
      simp only [if_pos h2, if_neg one_ne, if_neg (rg0.mp h2).1, if_neg (rg0.mp h2).2]
      by_cases h3 : 0 ≤ p2 ∧ p2 ≤ 3
      · simp only [if_pos h3, if_neg one_ne, if_neg (Int32.not_lt.mpr h3.1), if_pos h3.2]
        have hl := sr_lt th lk
        by_cases h0 : srN th lk = 0
        · rw [h0, if_pos (by decide), if_pos (by decide)]
          exact ⟨_, _, _, _, _, N1, _, _, _, _, _, _, _, _, _, rfl, rfl, hN, hk⟩
        · rw [if_neg (nI_ne0 (by omega) (by omega)), if_neg (nI_ne0 (by omega) (by omega))]
          obtain ⟨few', sum', mi', N', e1, hN', hS⟩ := solve10 hT hd hn hw hlk ho hli hN hk
          obtain ⟨av', ap', ms', e2, hav, hap, hms⟩ := laySoon11 (lk := lk) hT hw hli av ap ms
          obtain ⟨src, e3, e4⟩ := drawS2 (th := th) hlk h0 (s := s) (by omega)
          have hS0 := hS
          obtain ⟨haN, mk, mka, hmk⟩ := hS
          have hp := pc_le (srN th lk) 12
          unfold f_X0_go
          rw [e1, sb', e3, sb', e2, sb', e4, sb']
          obtain ⟨s', sd', x', i', t', l', g1, g2, g3, g4⟩ := day2 (fy := fy) (fn := fn) hT hd hw hlk ho hli hN' haN hmk hav hap hms hc (src, nI (sdN s)) (fun x9 x10 x11 x12 x13 x14 => (f_X0_leastOf x9).bind fun q32 => some (1, few', sum', mi', N', N', N' * 12, x14, x13, q32, src, x12)) (fun x16 x17 x18 x19 x20 => if p2 = 0 then some (x18, av', ap', ms', x20) else if p2 = 1 then (f_X11_least x16).bind fun q49 => some (q49, av', ap', ms', x20) else if p2 = 2 then some (src, av', ap', ms', x20) else some (x19, av', ap', ms', x20)) 12 (srN th lk) 0 0 (sdN s) 0 0 hp mka h0 (by omega) hT.1 (by omega) (sd_lt s) FU FU (fu_lt (by omega)) (fu_lt (by omega))
          obtain ⟨le, l1, l2⟩ := least2 g2 g1
          have g3' : LX0_go_44 (nI c) td wk fy fn (nI li) ov (1, few', sum', mi', N', N', N' * 12) (src, nI (sdN s)) (fun x9 x10 x11 x12 x13 x14 => (f_X0_leastOf x9).bind fun q32 => some (1, few', sum', mi', N', N', N' * 12, x14, x13, q32, src, x12)) FU (nI (srN th lk)) 0 0 0 0 (nI (sdN s)) = _ := g3
          have g4' : LX11_day_83 (nI c) fy fn th (nI li) (av', ap', ms') (src, nI (sdN s)) (fun x16 x17 x18 x19 x20 => if p2 = 0 then some (x18, av', ap', ms', x20) else if p2 = 1 then (f_X11_least x16).bind fun q49 => some (q49, av', ap', ms', x20) else if p2 = 2 then some (src, av', ap', ms', x20) else some (x19, av', ap', ms', x20)) FU (nI (srN th lk)) 0 0 0 (nI (sdN s)) = _ := g4
          rw [l1, sb'] at g3'
          rw [l2, sb'] at g4'
          try dsimp only
          rw [g3', g4', sb']
          by_cases a0 : p2 = 0
          · rw [if_pos a0, if_pos a0]
            exact ⟨_, _, _, _, _, N', _, _, _, _, _, _, _, _, _, rfl, rfl, hN', Or.inr ⟨rfl, hS0⟩⟩
          · rw [if_neg a0, if_neg a0]
            by_cases a1 : p2 = 1
            · rw [if_pos a1, if_pos a1]
              exact ⟨_, _, _, _, _, N', _, _, _, _, _, _, _, _, _, rfl, rfl, hN', Or.inr ⟨rfl, hS0⟩⟩
            · rw [if_neg a1, if_neg a1]
              by_cases a2 : p2 = 2
              · rw [if_pos a2, if_pos a2]
                exact ⟨_, _, _, _, _, N', _, _, _, _, _, _, _, _, _, rfl, rfl, hN', Or.inr ⟨rfl, hS0⟩⟩
              · rw [if_neg a2, if_neg a2]
                exact ⟨_, _, _, _, _, N', _, _, _, _, _, _, _, _, _, rfl, rfl, hN', Or.inr ⟨rfl, hS0⟩⟩
      · simp only [if_neg h3]
        rw [if_pos trivial]
        by_cases q : p2 < 0
        · rw [if_pos q]
          exact ⟨_, _, _, _, _, N1, _, _, _, _, _, _, _, _, _, rfl, rfl, hN, hk⟩
        · rw [if_neg q, if_neg (fun w => h3 ⟨Int32.not_lt.mp q, w⟩)]
          exact ⟨_, _, _, _, _, N1, _, _, _, _, _, _, _, _, _, rfl, rfl, hN, hk⟩
    · simp only [if_neg h2]
      rw [if_pos trivial]
      by_cases q : p0 < 0
      · rw [if_pos q]
        exact ⟨_, _, _, _, _, N1, _, _, _, _, _, _, _, _, _, rfl, rfl, hN, hk⟩
      · rw [if_neg q]
        by_cases q2 : (65536 : Int32) ≤ p0
        · rw [if_pos q2]
          exact ⟨_, _, _, _, _, N1, _, _, _, _, _, _, _, _, _, rfl, rfl, hN, hk⟩
        · exact absurd (rg0.mpr ⟨q, q2⟩) h2
  · simp only [if_neg h1]
    exact ⟨_, _, _, _, _, N1, _, _, _, _, _, _, _, _, _, rfl, rfl, hN, hk⟩
end
