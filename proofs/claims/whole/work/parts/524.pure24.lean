/-! fewest, mean, soon -/
theorem it2c {R R1 R2 : Type} (c1 : R → R1) (c2 : R → R2) (B : Nat) (Q : R → Prop) (F : Nat → Nat → Option R1) (G : Nat → Nat → Option R2) (h0 : ∀ n, ∃ r, Q r ∧ F (n + 1) B = some (c1 r) ∧ G (n + 1) B = some (c2 r)) (h1 : ∀ n i, i < B → (∃ r, Q r ∧ F (n + 1) i = some (c1 r) ∧ G (n + 1) i = some (c2 r)) ∨ (F (n + 1) i = F n (i + 1) ∧ G (n + 1) i = G n (i + 1))) : ∀ n i, i ≤ B → B - i < n → ∃ r, Q r ∧ F n i = some (c1 r) ∧ G n i = some (c2 r) := by
  intro n
  induction n with
  | zero => intro i _ h; omega
  | succ n ih =>
    intro i hi hn
    by_cases h : i = B
    · subst h; exact h0 n
    · rcases h1 n i (by omega) with h2 | ⟨a, b⟩
      · exact h2
      · rw [a, b]
        exact ih (i + 1) (by omega) (by omega)
theorem lS_pos {lk : Nat → Int32} {s x : Nat} (h1 : s.testBit x = true) (h2 : 1 ≤ vl lk x) : ∀ n, x < n → 1 ≤ lS lk s n
  | 0, h => by omega
  | n + 1, h => by
    rw [lS]
    by_cases q : x = n
    · subst q; rw [if_pos h1]; omega
    · have := lS_pos h1 h2 n (by omega)
      omega
theorem lk_pos {th : Int32} {lk : Nat → Int32} (hlk : Bd lk 12 99) (h : srN th lk ≠ 0) : 1 ≤ lkS lk (srN th lk) := by
  obtain ⟨x, hx, hb'⟩ := bit_ex h (sr_lt th lk)
  obtain ⟨_, _, h3⟩ := sr_bit hb'
  refine lS_pos hb' ?_ 12 hx
  obtain ⟨e, _⟩ := vl_e hlk (by decide) hx
  apply Decidable.byContradiction
  intro q
  apply h3
  rw [e, show vl lk x = 0 by omega]
  decide
section
variable {th : Int32} {md td wk lk ov : Nat → Int32}
theorem bdS (hT : Tree th md) (hw : Bd wk 12 60) (hlk : Bd lk 12 99) {li t : Nat} (hli : li ≤ 60) (ht : t &&& srN th lk = t) : vF (ab th md) t ≤ 12 ∧ vM (ab th md) (lkS lk) t ≤ 27324 ∧ ∀ x, vS (ab th md) li (wN md wk) t x ≤ 8640 := by
  have hlS : ∀ s, lkS lk s ≤ 1188 := fun s => by
    have := (lS_e hlk s 12 (Nat.le_refl _)).2
    unfold lkS; omega
  have h3 := vF_bd hT _ ht
  have h4 := vM_bd hT hlS _ ht
  have h5 := vS_bd (w := wN md wk) hT (fun x v => (wN_e hw x v).2) hli _ ht
  have h6 := pc_le t 12
  exact ⟨by omega, by omega, fun x => by have := h5 x; omega⟩
/-- promise 20 -/
theorem p_fewest (hT : Tree th md) (hd : ∀ v, v < 12 → hb th v = true → td v = md v) (hn : ∀ v, v < 12 → ¬ hb th v = true → td v = -1) (hw : Bd wk 12 60) (hlk : Bd lk 12 99) (ho : ∀ x, x < 12 → ov x = nI (ab th md x)) {li N1 : Nat} (hli : li ≤ 60) (hN : N1 ≤ 4096) {sv : Int32} {few sum mi : Nat → Int32} (hk : sv = 0 ∨ sv = 1 ∧ Slv th md wk lk li few sum mi N1) (av ap mf : Nat → Int32) (p0 : Int32) : ∃ (r sv' : Int32) (few' sum' mi' : Nat → Int32) (N' : Nat) (av' ap' mf' : Nat → Int32), f_X10_fewest p0 td wk lk (nI li) (nI (srN th lk)) ov sv few sum mi N1 N1 (N1 * 12) = some (r, sv', few', sum', mi', N', N', N' * 12) ∧ f_X11_fewest p0 md wk lk av ap mf th = some (r, av', ap', mf') ∧ N' ≤ 4096 ∧ (sv' = 0 ∨ sv' = 1 ∧ Slv th md wk lk li few' sum' mi' N') := by
  unfold f_X10_fewest f_X11_fewest
  rw [part10, sb', inI p0 0 1 (B := 0) (C := 1) rfl rfl, sb']
  by_cases h1 : 0 ≤ p0 ∧ p0 ≤ 1
  · have hl := sr_lt th lk
    obtain ⟨few', sum', mi', N', e1, hN', hS⟩ := solve10 hT hd hn hw hlk ho hli hN hk
    obtain ⟨av', ap', mf', e2, hav, hap, hmf⟩ := layFew11 (wk := wk) (lk := lk) hT av ap mf
    have hS0 := hS
    obtain ⟨haN, mk, mka, hmk⟩ := hS
    obtain ⟨_, ⟨ta, _, _⟩, tp⟩ := hmk _ mka
    have hsa : srN th lk &&& srN th lk = srN th lk := Nat.and_self _
    simp only [if_pos h1, if_neg one_ne]
    rw [e1, sb', src11, sb', e2, sb']
    by_cases h2 : p0 = 0
    · rw [if_pos h2, if_pos h2]
      refine ⟨nI (vF (ab th md) (srN th lk)), 1, few', sum', mi', N', av', ap', mf', ?_, ?_, hN', Or.inr ⟨rfl, hS0⟩⟩
      · try dsimp only
        rw [ri_nI haN (by omega), ta]
      · try dsimp only
        rw [ri_nI hl (by decide), hmf _ hl hsa]
    · rw [if_neg h2, if_neg h2]
      unfold f_X2_firstOfFewest
      obtain ⟨r, _, k1, k2⟩ := it2c (R := Int32) (fun r => r) (fun r => (r, av', ap', mf')) 12 (fun _ => True) (fun N i => LX2_firstOfFewest_10 (nI (srN th lk)) ov few' N' (fun _ => some (-1)) N (nI i)) (fun N i => LX11_fewest_36 th (nI (srN th lk)) (av', ap', mf') (fun _ => some (-1, av', ap', mf')) N (nI i)) (by
        intro N
        refine ⟨-1, trivial, ?_, ?_⟩
        · show LX2_firstOfFewest_10 (nI (srN th lk)) ov few' N' _ (N + 1) (nI 12) = _
          rw [LX2_firstOfFewest_10_s, if_pos (by decide)]
        · show LX11_fewest_36 th (nI (srN th lk)) (av', ap', mf') _ (N + 1) (nI 12) = _
          rw [LX11_fewest_36_s, if_pos (by decide)]) (by
        intro N i hi
        try dsimp only
        rw [LX2_firstOfFewest_10_s, if_neg (lt12 hi), splits10 ho hl hi, sb', LX11_fewest_36_s, if_neg (lt12 hi)]
        try dsimp only
        rw [parts11 hT hav hl hi, sb']
        by_cases hP : spl (ab th md) (srN th lk) i = true
        · obtain ⟨ky, kn⟩ := tp i hi hP
          obtain ⟨sy, ⟨ty, _, _⟩, _⟩ := hmk _ ky
          obtain ⟨sn, ⟨tn, _, _⟩, _⟩ := hmk _ kn
          obtain ⟨by1, _⟩ := bdS hT hw hlk hli sy
          obtain ⟨bn1, _⟩ := bdS hT hw hlk hli sn
          rw [if_pos hP, if_neg one_ne, if_neg one_ne, lidsBy10 ho hl haN hN' hi ty tn (by omega) (by omega), sb', ri_nI haN (by omega), ta, fewBy11 hav hl hi (hmf _ (sub_lt sy) sy) (hmf _ (sub_lt sn) sn) (by omega) (by omega), sb', ri_nI hl (by decide), hmf _ hl hsa]
          by_cases q : nI (1 + mx (vF (ab th md) (yS (ab th md) (srN th lk) i)) (vF (ab th md) (nS (ab th md) (srN th lk) i))) = nI (vF (ab th md) (srN th lk))
          · rw [if_pos q, if_pos q]
            exact Or.inl ⟨nI i, trivial, rfl, rfl⟩
          · rw [if_neg q, if_neg q, lt_eq, lt_eq, nI_1]
            exact Or.inr ⟨rfl, rfl⟩
        · rw [if_neg hP, if_pos rfl, if_pos rfl, lt_eq, lt_eq, nI_1]
          exact Or.inr ⟨rfl, rfl⟩) FU 0 (by omega) (fu_lt (by omega))
      refine ⟨r, 1, few', sum', mi', N', av', ap', mf', ?_, k2, hN', Or.inr ⟨rfl, hS0⟩⟩
      rw [show LX2_firstOfFewest_10 (nI (srN th lk)) ov few' N' (fun _ => some (-1)) FU 0 = some r from k1, sb']
  · simp only [if_neg h1]
    exact ⟨_, _, _, _, _, N1, _, _, _, rfl, rfl, hN, hk⟩
/-- promise 21 -/
theorem p_mean (hT : Tree th md) (hd : ∀ v, v < 12 → hb th v = true → td v = md v) (hn : ∀ v, v < 12 → ¬ hb th v = true → td v = -1) (hw : Bd wk 12 60) (hlk : Bd lk 12 99) (ho : ∀ x, x < 12 → ov x = nI (ab th md x)) {li N1 : Nat} (hli : li ≤ 60) (hN : N1 ≤ 4096) {sv : Int32} {few sum mi : Nat → Int32} (hk : sv = 0 ∨ sv = 1 ∧ Slv th md wk lk li few sum mi N1) (av ap mm : Nat → Int32) (p0 : Int32) : ∃ (r sv' : Int32) (few' sum' mi' : Nat → Int32) (N' : Nat) (av' ap' mm' : Nat → Int32), f_X10_mean p0 td wk lk (nI li) (nI (srN th lk)) ov sv few sum mi N1 N1 (N1 * 12) = some (r, sv', few', sum', mi', N', N', N' * 12) ∧ f_X11_mean p0 md wk lk av ap mm th = some (r, av', ap', mm') ∧ N' ≤ 4096 ∧ (sv' = 0 ∨ sv' = 1 ∧ Slv th md wk lk li few' sum' mi' N') := by
  unfold f_X10_mean f_X11_mean
  rw [part10, sb', part11, sb', src11, sb']
  by_cases h1 : 0 ≤ p0 ∧ p0 ≤ 1
  · have hl := sr_lt th lk
    simp only [if_pos h1, if_neg one_ne]
    by_cases h0 : srN th lk = 0
    · rw [h0, if_pos (by decide), if_pos (by decide)]
      exact ⟨_, _, _, _, _, N1, _, _, _, rfl, rfl, hN, hk⟩
    · rw [if_neg (nI_ne0 (by omega) (by omega)), if_neg (nI_ne0 (by omega) (by omega))]
      obtain ⟨few', sum', mi', N', e1, hN', hS⟩ := solve10 hT hd hn hw hlk ho hli hN hk
      have hS0 := hS
      obtain ⟨haN, mk, mka, hmk⟩ := hS
      obtain ⟨_, ⟨_, ta, _⟩, tp⟩ := hmk _ mka
      have hsa : srN th lk &&& srN th lk = srN th lk := Nat.and_self _
      obtain ⟨av', ap', e2, hav, hap⟩ := ways11 (wk := wk) hT av ap
      obtain ⟨mm', hmm, e3⟩ := mean11 (lk := lk) (ap := ap') hT hlk hav (fun _ f9 => ri f9 4096 (nI (srN th lk)) fun x47 => (f_X11_likelyOf (nI (srN th lk)) lk).bind fun q49 => (f_X11_lowest (Int32.toInt64 x47) (Int32.toInt64 q49) p0).bind fun q50 => some ((Int64.toInt32 q50), av', ap', f9)) mm
      have b1 := (bdS hT hw hlk hli hsa).2.1
      have b2 := (lS_e hlk (srN th lk) 12 (Nat.le_refl _)).2
      have b3 := lk_pos hlk h0
      have el : lS lk (srN th lk) 12 = lkS lk (srN th lk) := rfl
      obtain ⟨r, r1, r2⟩ := low2 (a := vM (ab th md) (lkS lk) (srN th lk)) (b := lkS lk (srN th lk)) (by omega) (by omega) (by omega) p0
      rw [e1, sb', e2, sb']
      refine ⟨Int64.toInt32 r, 1, few', sum', mi', N', av', ap', mm', ?_, ?_, hN', Or.inr ⟨rfl, hS0⟩⟩
      · try dsimp only
        rw [ri_nI haN (by omega), ta, lik10 hl, (lS_e hlk (srN th lk) 12 (Nat.le_refl _)).1, sb', el, nI_l (by omega), nI_l (by omega), r1, sb']
      · refine Eq.trans e3 ?_
        rw [ri_nI hl (by decide), hmm _ hl hsa, lik11 hl, (lS_e hlk (srN th lk) 12 (Nat.le_refl _)).1, sb', el, nI_l (by omega), nI_l (by omega), r2, sb']
  · simp only [if_neg h1]
    exact ⟨_, _, _, _, _, N1, _, _, _, rfl, rfl, hN, hk⟩
theorem spl_no {s v : Nat} {A : Nat → Nat} (hs : s < 4096) (h : pc s 12 < 2) : ¬ spl A s v = true := fun q => by
  have := spl_pc hs q
  omega
/-- the next lid, on both sides -/
theorem lid2 (hT : Tree th md) (hd : ∀ v, v < 12 → hb th v = true → td v = md v) (hw : Bd wk 12 60) (hlk : Bd lk 12 99) (ho : ∀ x, x < 12 → ov x = nI (ab th md x)) {li N1 : Nat} (hli : li ≤ 60) (hN : N1 ≤ 4096) {few sum mi av ap so : Nat → Int32} {mk : Nat → Prop} (haN : srN th lk < N1) (hmk : ∀ s, mk s → s &&& srN th lk = s ∧ Tb th md wk lk li few sum mi s ∧ ∀ v, v < 12 → spl (ab th md) s v = true → mk (yS (ab th md) s v) ∧ mk (nS (ab th md) s v)) (hav : ∀ x, x < 12 → av x = nI (ab th md x)) (hap : ∀ x y, x < 12 → y < 12 → hb th x = true → hb th y = true → ap (12 * x + y) = wk2 md wk x y) (hso : ∀ s, s < 4096 → s &&& srN th lk = s → ∀ x, x < 12 → hb th x = true → so (12 * s + x) = nI (vS (ab th md) li (wN md wk) s x)) {s x : Nat} (hs : mk s) (hx : x < 12) (tx : hb th x = true) : ∃ r, (2 ≤ pc s 12 → ∃ v, v < 12 ∧ r = nI v ∧ spl (ab th md) s v = true) ∧ f_X2_nextLid (nI x) (nI s) td wk (nI li) ov mi (N1 * 12) = some r ∧ f_X11_soonLid (nI x) (nI s) av ap so th (nI li) = some r := by
  unfold f_X2_nextLid f_X11_soonLid
  obtain ⟨ssub, ⟨_, _, ts⟩, tp⟩ := hmk s hs
  have hs4 := sub_lt ssub
  have hl := sr_lt th lk
  have hsN : s < N1 := by
    have : s ≤ srN th lk := by rw [← ssub]; exact Nat.and_le_right
    omega
  have w1 : nI s * 12 + nI x = nI (s * 12 + x) := by rw [i12, nI_add]
  have w2 : (12 : Int32) * nI s + nI x = nI (12 * s + x) := by
    rw [show (12 : Int32) * nI s = nI (12 * s) from pk_mul 12 s, nI_add]
  have b0 := (bdS hT hw hlk hli ssub).2.2 x
  -- one step
  have step : ∀ N i, i < 12 → (spl (ab th md) s i = true ∧ (wN md wk x i + gC (ab th md) li (vS (ab th md) li (wN md wk)) s i = vS (ab th md) li (wN md wk) s x) ∧ LX2_nextLid_2 (nI x) (nI s) td wk (nI li) ov mi (N1 * 12) (fun _ => some (-1)) (N + 1) (nI i) = some (nI i) ∧ LX11_soonLid_2 (nI x) (nI s) av ap so th (nI li) (fun _ => some (-1)) (N + 1) (nI i) = some (nI i)) ∨ (¬ (spl (ab th md) s i = true ∧ (wN md wk x i + gC (ab th md) li (vS (ab th md) li (wN md wk)) s i = vS (ab th md) li (wN md wk) s x)) ∧ LX2_nextLid_2 (nI x) (nI s) td wk (nI li) ov mi (N1 * 12) (fun _ => some (-1)) (N + 1) (nI i) = LX2_nextLid_2 (nI x) (nI s) td wk (nI li) ov mi (N1 * 12) (fun _ => some (-1)) N (nI (i + 1)) ∧ LX11_soonLid_2 (nI x) (nI s) av ap so th (nI li) (fun _ => some (-1)) (N + 1) (nI i) = LX11_soonLid_2 (nI x) (nI s) av ap so th (nI li) (fun _ => some (-1)) N (nI (i + 1))) := by
    intro N i hi
    rw [LX2_nextLid_2_s, if_neg (lt12 hi), splits10 ho hs4 hi, sb', LX11_soonLid_2_s, if_neg (lt12 hi), parts11 hT hav hs4 hi, sb']
    by_cases hP : spl (ab th md) s i = true
    · have ti := spl_th hT hi hP
      obtain ⟨ky, kn⟩ := tp i hi hP
      obtain ⟨sy, ⟨_, _, ty⟩, _⟩ := hmk _ ky
      obtain ⟨sn, ⟨_, _, tn⟩, _⟩ := hmk _ kn
      have by1 := (bdS hT hw hlk hli sy).2.2 i
      have bn1 := (bdS hT hw hlk hli sn).2.2 i
      have bm := mx_le by1 bn1
      obtain ⟨ew, bw⟩ := wN_e (md := md) hw x i
      obtain ⟨z, z1, z2⟩ := soonBy11 hav hap hw hli hs4 hi hx ti (hso _ (sub_lt sy) sy i hi ti) (hso _ (sub_lt sn) sn i hi ti) by1 bn1
      have z3 := z2 tx
      subst z3
      have eg : gC (ab th md) li (vS (ab th md) li (wN md wk)) s i = li + mx (vS (ab th md) li (wN md wk) (yS (ab th md) s i) i) (vS (ab th md) li (wN md wk) (nS (ab th md) s i) i) := rfl
      rw [if_pos hP, if_neg one_ne, if_neg one_ne, mb10 hT hd hx hi tx ti, sb', minBy10 ho hs4 hsN hN hi (ty i hi ti) (tn i hi ti) (by omega) (by omega), sb', lt_eq, w1, ri_nI (by omega) (by omega), ts x hx tx, z1, sb', w2, ri_nI (by omega) (by decide), hso s hs4 ssub x hx tx, ew, nI_add, ← eg]
      by_cases q : wN md wk x i + gC (ab th md) li (vS (ab th md) li (wN md wk)) s i = vS (ab th md) li (wN md wk) s x
      · rw [q, if_pos rfl, if_pos rfl]
        exact Or.inl ⟨hP, rfl, rfl, rfl⟩
      · have q' : ¬ nI (wN md wk x i + gC (ab th md) li (vS (ab th md) li (wN md wk)) s i) = nI (vS (ab th md) li (wN md wk) s x) := fun w => q ((nI_eq (by omega) (by omega)).mp w)
        rw [if_neg q', if_neg q', lt_eq, lt_eq, nI_1]
        exact Or.inr ⟨fun w => q w.2, rfl, rfl⟩
    · rw [if_neg hP, if_pos rfl, if_pos rfl, lt_eq, lt_eq, nI_1]
      exact Or.inr ⟨fun w => hP w.1, rfl, rfl⟩
  by_cases h2 : 2 ≤ pc s 12
  · have hv : ∃ v, v < 12 ∧ spl (ab th md) s v = true ∧ wN md wk x v + gC (ab th md) li (vS (ab th md) li (wN md wk)) s v = vS (ab th md) li (wN md wk) s x := by
      rcases mn_ex (D := 1000000) (P := spl (ab th md) s) (g := fun v => wN md wk x v + gC (ab th md) li (vS (ab th md) li (wN md wk)) s v) 12 with h | ⟨v, v1, v2, v3⟩
      · have e := congrFun (vS_eq (ab th md) li (wN md wk) s) x
        unfold stS at e
        rw [if_neg (by omega), h] at e
        omega
      · refine ⟨v, v1, v2, ?_⟩
        have e := congrFun (vS_eq (ab th md) li (wN md wk) s) x
        unfold stS at e
        rw [if_neg (by omega), v3] at e
        exact e.symm
    obtain ⟨v, v1, v2, v3⟩ := hv
    obtain ⟨r, ⟨u, u1, u2, u3⟩, k1, k2⟩ := it2 (R := Int32) v (fun r => ∃ v, v < 12 ∧ r = nI v ∧ spl (ab th md) s v = true) (fun N i => LX2_nextLid_2 (nI x) (nI s) td wk (nI li) ov mi (N1 * 12) (fun _ => some (-1)) N (nI i)) (fun N i => LX11_soonLid_2 (nI x) (nI s) av ap so th (nI li) (fun _ => some (-1)) N (nI i)) (by
      intro N
      rcases step N v v1 with ⟨_, _, a, b⟩ | ⟨a, _⟩
      · exact ⟨nI v, ⟨v, v1, rfl, v2⟩, a, b⟩
      · exact absurd ⟨v2, v3⟩ a) (by
      intro N i hi
      rcases step N i (by omega) with ⟨a1, _, a, b⟩ | ⟨_, a, b⟩
      · exact Or.inl ⟨nI i, ⟨i, by omega, rfl, a1⟩, a, b⟩
      · exact Or.inr ⟨a, b⟩) FU 0 (by omega) (fu_lt (by omega))
    exact ⟨r, fun _ => ⟨u, u1, u2, u3⟩, k1, k2⟩
  · obtain ⟨r, _, k1, k2⟩ := it2 (R := Int32) 12 (fun _ => True) (fun N i => LX2_nextLid_2 (nI x) (nI s) td wk (nI li) ov mi (N1 * 12) (fun _ => some (-1)) N (nI i)) (fun N i => LX11_soonLid_2 (nI x) (nI s) av ap so th (nI li) (fun _ => some (-1)) N (nI i)) (by
      intro N
      refine ⟨-1, trivial, ?_, ?_⟩
      · show LX2_nextLid_2 (nI x) (nI s) td wk (nI li) ov mi (N1 * 12) _ (N + 1) (nI 12) = _
        rw [LX2_nextLid_2_s, if_pos (by decide)]
      · show LX11_soonLid_2 (nI x) (nI s) av ap so th (nI li) _ (N + 1) (nI 12) = _
        rw [LX11_soonLid_2_s, if_pos (by decide)]) (by
      intro N i hi
      rcases step N i (by omega) with ⟨a1, _, a, b⟩ | ⟨_, a, b⟩
      · exact Or.inl ⟨nI i, trivial, a, b⟩
      · exact Or.inr ⟨a, b⟩) FU 0 (by omega) (fu_lt (by omega))
    exact ⟨r, fun w => absurd w h2, k1, k2⟩
/-- promise 22 -/
theorem p_soon (hT : Tree th md) (hd : ∀ v, v < 12 → hb th v = true → td v = md v) (hn : ∀ v, v < 12 → ¬ hb th v = true → td v = -1) (hw : Bd wk 12 60) (hlk : Bd lk 12 99) (ho : ∀ x, x < 12 → ov x = nI (ab th md x)) {li N1 : Nat} (hli : li ≤ 60) (hN : N1 ≤ 4096) {sv : Int32} {few sum mi : Nat → Int32} (hk : sv = 0 ∨ sv = 1 ∧ Slv th md wk lk li few sum mi N1) (av ap ms : Nat → Int32) (p0 p1 : Int32) : ∃ (r sv' : Int32) (few' sum' mi' : Nat → Int32) (N' : Nat) (av' ap' ms' : Nat → Int32), f_X10_soon p0 p1 td wk lk th (nI li) (nI (srN th lk)) ov sv few sum mi N1 N1 (N1 * 12) = some (r, sv', few', sum', mi', N', N', N' * 12) ∧ f_X11_soon p0 p1 md wk lk av ap ms th (nI li) = some (r, av', ap', ms') ∧ N' ≤ 4096 ∧ (sv' = 0 ∨ sv' = 1 ∧ Slv th md wk lk li few' sum' mi' N') := by
  unfold f_X10_soon f_X11_soon
  rw [there10, sb', node11, sb', part10, sb', inI p1 0 1 (B := 0) (C := 1) rfl rfl, sb']
  by_cases h : isN th p0 = true
  · obtain ⟨x, hx, rfl, tx⟩ := isN_of h
    simp only [if_pos h, if_neg one_ne]
    by_cases h1 : 0 ≤ p1 ∧ p1 ≤ 1
    · have hl := sr_lt th lk
      obtain ⟨few', sum', mi', N', e1, hN', hS⟩ := solve10 hT hd hn hw hlk ho hli hN hk
      obtain ⟨av', ap', ms', e2, hav, hap, hms⟩ := laySoon11 (lk := lk) hT hw hli av ap ms
      have hS0 := hS
      obtain ⟨haN, mk, mka, hmk⟩ := hS
      obtain ⟨_, ⟨_, _, ta⟩, _⟩ := hmk _ mka
      have hsa : srN th lk &&& srN th lk = srN th lk := Nat.and_self _
      have w1 : nI (srN th lk) * 12 + nI x = nI (srN th lk * 12 + x) := by rw [i12, nI_add]
      have w2 : (12 : Int32) * nI (srN th lk) + nI x = nI (12 * srN th lk + x) := by
        rw [show (12 : Int32) * nI (srN th lk) = nI (12 * srN th lk) from pk_mul 12 _, nI_add]
      simp only [if_pos h1, if_neg one_ne]
      rw [e1, sb', src11, sb', e2, sb']
      by_cases h2 : p1 = 0
      · rw [if_pos h2, if_pos h2]
        refine ⟨nI (vS (ab th md) li (wN md wk) (srN th lk) x), 1, few', sum', mi', N', av', ap', ms', ?_, ?_, hN', Or.inr ⟨rfl, hS0⟩⟩
        · try dsimp only
          rw [w1, ri_nI (by omega) (by omega), ta x hx tx]
        · try dsimp only
          rw [w2, ri_nI (by omega) (by decide), hms _ hl hsa x hx tx]
      · rw [if_neg h2, if_neg h2]
        try dsimp only
        obtain ⟨r, _, k1, k2⟩ := lid2 hT hd hw hlk ho hli hN' haN hmk hav hap hms mka hx tx
        rw [k1, k2, sb', sb']
        exact ⟨r, 1, few', sum', mi', N', av', ap', ms', rfl, rfl, hN', Or.inr ⟨rfl, hS0⟩⟩
    · simp only [if_neg h1]
      exact ⟨_, _, _, _, _, N1, _, _, _, rfl, rfl, hN, hk⟩
  · simp only [if_neg h]
    exact ⟨_, _, _, _, _, N1, _, _, _, rfl, rfl, hN, hk⟩
end
