/-! the law: both sides answer alike, call by call -/
def Core (len t li n N1 : Nat) (td md mi wk go fl lk st fr to rn te fy fn fd ov wg : Nat → Int32) (bl : Int32) (no a1 a2 : Int64) (k1 k2 sv : Int32) (one tw : Nat → Int64) (hf hs hm : Nat → Int32) (sL sT : Nat → Nat → Int32) (sF sU fC fS fM fT fY : Nat → Int32) : Prop := len ≤ 200 ∧ t < 4096 ∧ li ≤ 60 ∧ N1 ≤ 4096 ∧ Pl td md mi wk lk fr to te fy fn (nI t) (nI li) bl ∧ (∀ x, x < 12 → ov x = nI (ab (nI t) md x)) ∧ Wat (nI t) md mi go fl st fr to wg sL sT sF sU ∧ Fnd fC fS fM fT fY fd n ∧ (k1 = 0 ∨ k1 = 1 ∧ C1 (nI t) bl md mi go fl lk st fr to rn te fy fn fd n no a1 one) ∧ (k2 = 0 ∨ k2 = 1 ∧ C2 (nI t) md mi go fl lk st fr to rn te fy fn fd n a2 tw) ∧ (sv = 0 ∨ sv = 1 ∧ Slv (nI t) md wk lk li hf hs hm N1)
theorem lgr (r : Int64) : lg_cmp r r = 0 := by
  unfold lg_cmp
  rw [if_neg (fun q => Int64.lt_irrefl q), if_pos rfl]
set_option maxHeartbeats 20000000 in
theorem law2 {L : Nat} (hL : L ≤ 384) (xs : Nat → Int32) : ∀ (N i : Nat) (len t li n N1 : Nat) (ls tS tE bl k1 k2 sv d1 d2 d3 d4 d5 rm ma mp me sd : Int32) (no a1 a2 : Int64) (b kk nn td mi wk go fl lk st fr to rn te fy fn ov wg hf hs hm lki lun rd md fd av ap mf mm ms mk sF sU fC fS fM fT fY : Nat → Int32) (one tw : Nat → Int64) (sL sT : Nat → Nat → Int32), i ≤ L → L - i < 6 * N → Core len t li n N1 td md mi wk go fl lk st fr to rn te fy fn fd ov wg bl no a1 a2 k1 k2 sv one tw hf hs hm sL sT sF sU fC fS fM fT fY → LL_law L xs N (nI i) (nI len) ls tS tE b kk nn td mi wk go fl lk st fr to rn te fy fn (nI t) (nI li) bl (nI (srN (nI t) lk)) ov wg no a1 a2 k1 k2 (nI n) one tw sv hf hs hm N1 N1 (N1 * 12) lki lun d1 d2 d3 d4 d5 b rd md mi wk go fl lk st fr to rn te fy fn fd av ap mf mm ms mk (nI len) rm (nI t) (nI li) bl (nI n) ma mp me sd sL sT sF sU fC fS fM fT fY = some 1 := by
  intro N
  induction N with
  | zero => intro i len t li n N1 ls tS tE bl k1 k2 sv d1 d2 d3 d4 d5 rm ma mp me sd no a1 a2 b kk nn td mi wk go fl lk st fr to rn te fy fn ov wg hf hs hm lki lun rd md fd av ap mf mm ms mk sF sU fC fS fM fT fY one tw sL sT hi hn; omega
  | succ N ih =>
    intro i len t li n N1 ls tS tE bl k1 k2 sv d1 d2 d3 d4 d5 rm ma mp me sd no a1 a2 b kk nn td mi wk go fl lk st fr to rn te fy fn ov wg hf hs hm lki lun rd md fd av ap mf mm ms mk sF sU fC fS fM fT fY one tw sL sT hi hn hC
    have hC0 := hC
    obtain ⟨hlen, ht, hli, hN, hP, ho, hW, hF, hk1, hk2, hsv⟩ := hC
    have hP0 := hP
    obtain ⟨_, hT, hd, hnt, hmi, hwk, hw0, hlk, hfr, hto, hte, hfy, hfn, _, hbl⟩ := hP
    rw [LL_law_s]
    by_cases h6 : i + 6 ≤ L
    rotate_left
    · have e0 : nI L - 6 < nI i := by
        by_cases h7 : 6 ≤ L
        · rw [show nI L - 6 = nI (L - 6) from pk_sub (b := 6) h7]; exact nI_lt (by omega) (by omega)
        · exact Int32.lt_of_lt_of_le (pk_sneg (a := L) (b := 6) (by decide) (by omega)) (nI_pos' (by omega))
      rw [if_pos e0]
    have e0 : ¬ nI L - 6 < nI i := by rw [show nI L - 6 = nI (L - 6) from pk_sub (b := 6) (by omega)]; exact nI_nlt (by omega) (by omega)
    have w1 : nI i + 1 = nI (i + 1) := nI_add _ 1
    have w2 : nI i + 2 = nI (i + 2) := nI_add _ 2
    have w3 : nI i + 3 = nI (i + 3) := nI_add _ 3
    have w4 : nI i + 4 = nI (i + 4) := nI_add _ 4
    have w5 : nI i + 5 = nI (i + 5) := nI_add _ 5
    have w6 : nI i + 6 = nI (i + 6) := nI_add _ 6
    have h31 : L < 2 ^ 31 := by omega
    rw [if_neg e0, ri_nI (by omega) h31, lt_eq]
    obtain ⟨op, hop, eop⟩ := pk_andE (xs i) (m := 31) 5 (by decide)
    rw [eop]
    have hop2 : op < 32 := hop
    by_cases o0 : op = 0
    · subst o0
      obtain ⟨r, len1, b1, h1, e1, e2⟩ := p_write (((Int32.toInt64 (xs (i + 1))) <<< (Int32.toInt64 32 &&& 63)) ||| ((Int32.toInt64 (xs (i + 2))) &&& (4294967295 : Int64))) (xs (i + 3)) len hlen b
      rw [if_pos (show nI 0 = 0 by decide)]
      rw [w1, w2, w3, ri_nI (by omega) h31, ri_nI (by omega) h31, ri_nI (by omega) h31]
      rw [e1, sb']
      rw [ri_nI (by omega) h31, ri_nI (by omega) h31, ri_nI (by omega) h31]
      rw [e2, sb']
      try dsimp only
      rw [if_pos rfl, lt_eq, w6]
      exact ih (i + 6) len1 t li n N1 ls tS tE bl k1 k2 sv d1 d2 d3 d4 d5 rm ma mp me sd no a1 a2 b1 kk nn td mi wk go fl lk st fr to rn te fy fn ov wg hf hs hm lki lun rd md fd av ap mf mm ms mk sF sU fC fS fM fT fY one tw sL sT (by omega) (by omega) ⟨h1, ht, hli, hN, hP0, ho, hW, hF, hk1, hk2, hsv⟩
    by_cases o1 : op = 1
    · subst o1
      obtain ⟨e1, e2⟩ := p_erase (nI len)
      rw [if_neg (show ¬ nI 1 = 0 by decide), if_pos (show nI 1 = 1 by decide)]
      rw [e1, sb']
      rw [e2, sb']
      try dsimp only
      rw [if_pos rfl, lt_eq, w6]
      exact ih (i + 6) 0 t li n N1 ls tS tE bl k1 k2 sv d1 d2 d3 d4 d5 rm ma mp me sd no a1 a2 b kk nn td mi wk go fl lk st fr to rn te fy fn ov wg hf hs hm lki lun rd md fd av ap mf mm ms mk sF sU fC fS fM fT fY one tw sL sT (by omega) (by omega) ⟨(Nat.zero_le _), ht, hli, hN, hP0, ho, hW, hF, hk1, hk2, hsv⟩
    by_cases o2 : op = 2
    · subst o2
      obtain ⟨r, l1, s1, t1, kk1, nn1, rd1, rm1, ma1, mp1, me1, e1, e2⟩ := p_fault (b := b) hlen ls tS tE kk nn rd rm ma mp me
      rw [if_neg (show ¬ nI 2 = 0 by decide), if_neg (show ¬ nI 2 = 1 by decide), if_pos (show nI 2 = 2 by decide)]
      rw [e1, sb']
      rw [e2, sb']
      try dsimp only
      rw [if_pos rfl, lt_eq, w6]
      exact ih (i + 6) len t li n N1 l1 s1 t1 bl k1 k2 sv d1 d2 d3 d4 d5 rm1 ma1 mp1 me1 sd no a1 a2 b kk1 nn1 td mi wk go fl lk st fr to rn te fy fn ov wg hf hs hm lki lun rd1 md fd av ap mf mm ms mk sF sU fC fS fM fT fY one tw sL sT (by omega) (by omega) hC0
    by_cases o3 : op = 3
    · subst o3
      obtain ⟨r, len1, l1, s1, t1, kk1, nn1, rd1, td1, md1, mi1, wk1, go1, fl1, lk1, st1, fr1, to1, rn1, te1, fy1, fn1, th1, li1, bl1, ov1, wg1, k11, k21, sv1, sL1, sT1, sF1, sU1, rm1, ma1, mp1, me1, e1, e2, g1, g2, g3, g4, g5⟩ := p_town (b := b) hlen hP0 ho hW ls tS tE kk nn rd rm ma mp me k1 k2 sv (rn := rn)
      rw [if_neg (show ¬ nI 3 = 0 by decide), if_neg (show ¬ nI 3 = 1 by decide), if_neg (show ¬ nI 3 = 2 by decide), if_pos (show nI 3 = 3 by decide), e1, sb', e2, sb']
      try dsimp only
      rw [if_pos rfl, lt_eq, w6]
      have g2' := g2
      obtain ⟨⟨t2, ht2, z1⟩, _, _, _, _, _, _, _, _, _, _, _, _, ⟨li2, hli2, z2⟩, _⟩ := g2'
      have gk : (k11 = 0 ∨ k11 = 1 ∧ C1 th1 bl1 md1 mi1 go1 fl1 lk1 st1 fr1 to1 rn1 te1 fy1 fn1 fd n no a1 one) ∧ (k21 = 0 ∨ k21 = 1 ∧ C2 th1 md1 mi1 go1 fl1 lk1 st1 fr1 to1 rn1 te1 fy1 fn1 fd n a2 tw) ∧ (sv1 = 0 ∨ sv1 = 1 ∧ Slv th1 md1 wk1 lk1 li2 hf hs hm N1) := by
        rcases g5 with ⟨y1, y2, y3⟩ | ⟨rfl, rfl, rfl, rfl, rfl, rfl, rfl, rfl, rfl, rfl, rfl, rfl, rfl, rfl, rfl, rfl, rfl, rfl, rfl⟩
        · exact ⟨Or.inl y1, Or.inl y2, Or.inl y3⟩
        · have : li = li2 := (nI_eq (by omega) (by omega)).mp z2
          subst this
          exact ⟨hk1, hk2, hsv⟩
      subst z1 z2
      exact ih (i + 6) len1 t2 li2 n N1 l1 s1 t1 bl1 k11 k21 sv1 d1 d2 d3 d4 d5 rm1 ma1 mp1 me1 sd no a1 a2 b kk1 nn1 td1 mi1 wk1 go1 fl1 lk1 st1 fr1 to1 rn1 te1 fy1 fn1 ov1 wg1 hf hs hm lki lun rd1 md1 fd av ap mf mm ms mk sF1 sU1 fC fS fM fT fY one tw sL1 sT1 (by omega) (by omega) ⟨g1, ht2, hli2, hN, g2, g3, g4, hF, gk.1, gk.2.1, gk.2.2⟩
    by_cases o4 : op = 4
    · subst o4
      obtain ⟨r, e1, e2⟩ := p_of (xs (i + 1)) (xs (i + 2)) (nI t) td md mi wk go fl lk st fr to hd
      rw [if_neg (show ¬ nI 4 = 0 by decide), if_neg (show ¬ nI 4 = 1 by decide), if_neg (show ¬ nI 4 = 2 by decide), if_neg (show ¬ nI 4 = 3 by decide), if_pos (show nI 4 = 4 by decide)]
      rw [w1, w2, ri_nI (by omega) h31, ri_nI (by omega) h31]
      rw [e1, sb']
      rw [ri_nI (by omega) h31, ri_nI (by omega) h31]
      rw [e2, sb']
      try dsimp only
      rw [if_pos rfl, lt_eq, w6]
      exact ih (i + 6) len t li n N1 ls tS tE bl k1 k2 sv d1 d2 d3 d4 d5 rm ma mp me sd no a1 a2 b kk nn td mi wk go fl lk st fr to rn te fy fn ov wg hf hs hm lki lun rd md fd av ap mf mm ms mk sF sU fC fS fM fT fY one tw sL sT (by omega) (by omega) hC0
    by_cases o5 : op = 5
    · subst o5
      obtain ⟨r, e1, e2⟩ := p_cup (xs (i + 1)) (xs (i + 2)) te fy fn
      rw [if_neg (show ¬ nI 5 = 0 by decide), if_neg (show ¬ nI 5 = 1 by decide), if_neg (show ¬ nI 5 = 2 by decide), if_neg (show ¬ nI 5 = 3 by decide), if_neg (show ¬ nI 5 = 4 by decide), if_pos (show nI 5 = 5 by decide)]
      rw [w1, w2, ri_nI (by omega) h31, ri_nI (by omega) h31]
      rw [e1, sb']
      rw [ri_nI (by omega) h31, ri_nI (by omega) h31]
      rw [e2, sb']
      try dsimp only
      rw [if_pos rfl, lt_eq, w6]
      exact ih (i + 6) len t li n N1 ls tS tE bl k1 k2 sv d1 d2 d3 d4 d5 rm ma mp me sd no a1 a2 b kk nn td mi wk go fl lk st fr to rn te fy fn ov wg hf hs hm lki lun rd md fd av ap mf mm ms mk sF sU fC fS fM fT fY one tw sL sT (by omega) (by omega) hC0
    by_cases o6 : op = 6
    · subst o6
      obtain ⟨r, e1, e2⟩ := p_above hT ho (xs (i + 1))
      rw [if_neg (show ¬ nI 6 = 0 by decide), if_neg (show ¬ nI 6 = 1 by decide), if_neg (show ¬ nI 6 = 2 by decide), if_neg (show ¬ nI 6 = 3 by decide), if_neg (show ¬ nI 6 = 4 by decide), if_neg (show ¬ nI 6 = 5 by decide), if_pos (show nI 6 = 6 by decide)]
      rw [w1, ri_nI (by omega) h31]
      rw [e1, sb']
      rw [ri_nI (by omega) h31]
      rw [e2, sb']
      try dsimp only
      rw [if_pos rfl, lt_eq, w6]
      exact ih (i + 6) len t li n N1 ls tS tE bl k1 k2 sv d1 d2 d3 d4 d5 rm ma mp me sd no a1 a2 b kk nn td mi wk go fl lk st fr to rn te fy fn ov wg hf hs hm lki lun rd md fd av ap mf mm ms mk sF sU fC fS fM fT fY one tw sL sT (by omega) (by omega) hC0
    by_cases o7 : op = 7
    · subst o7
      obtain ⟨r, e1, e2⟩ := p_walk (wk := wk) hT hd (xs (i + 1)) (xs (i + 2))
      rw [if_neg (show ¬ nI 7 = 0 by decide), if_neg (show ¬ nI 7 = 1 by decide), if_neg (show ¬ nI 7 = 2 by decide), if_neg (show ¬ nI 7 = 3 by decide), if_neg (show ¬ nI 7 = 4 by decide), if_neg (show ¬ nI 7 = 5 by decide), if_neg (show ¬ nI 7 = 6 by decide), if_pos (show nI 7 = 7 by decide)]
      rw [w1, w2, ri_nI (by omega) h31, ri_nI (by omega) h31]
      rw [e1, sb']
      rw [ri_nI (by omega) h31, ri_nI (by omega) h31]
      rw [e2, sb']
      try dsimp only
      rw [if_pos rfl, lt_eq, w6]
      exact ih (i + 6) len t li n N1 ls tS tE bl k1 k2 sv d1 d2 d3 d4 d5 rm ma mp me sd no a1 a2 b kk nn td mi wk go fl lk st fr to rn te fy fn ov wg hf hs hm lki lun rd md fd av ap mf mm ms mk sF sU fC fS fM fT fY one tw sL sT (by omega) (by omega) hC0
    by_cases o8 : op = 8
    · subst o8
      obtain ⟨r, e1, e2⟩ := p_flow hT fl rn hW.1 (xs (i + 1)) (xs (i + 2))
      rw [if_neg (show ¬ nI 8 = 0 by decide), if_neg (show ¬ nI 8 = 1 by decide), if_neg (show ¬ nI 8 = 2 by decide), if_neg (show ¬ nI 8 = 3 by decide), if_neg (show ¬ nI 8 = 4 by decide), if_neg (show ¬ nI 8 = 5 by decide), if_neg (show ¬ nI 8 = 6 by decide), if_neg (show ¬ nI 8 = 7 by decide), if_pos (show nI 8 = 8 by decide)]
      rw [w1, w2, ri_nI (by omega) h31, ri_nI (by omega) h31]
      rw [e1, sb']
      rw [ri_nI (by omega) h31, ri_nI (by omega) h31]
      rw [e2, sb']
      try dsimp only
      rw [if_pos rfl, lt_eq, w6]
      exact ih (i + 6) len t li n N1 ls tS tE bl k1 k2 sv d1 d2 d3 d4 d5 rm ma mp me sd no a1 a2 b kk nn td mi wk go fl lk st fr to rn te fy fn ov wg hf hs hm lki lun rd md fd av ap mf mm ms mk sF sU fC fS fM fT fY one tw sL sT (by omega) (by omega) hC0
    by_cases o9 : op = 9
    · subst o9
      obtain ⟨r, e1, e2⟩ := p_comes (rn := rn) hT hmi hfr hto hW (xs (i + 1)) (xs (i + 2)) (xs (i + 3)) (xs (i + 4))
      rw [if_neg (show ¬ nI 9 = 0 by decide), if_neg (show ¬ nI 9 = 1 by decide), if_neg (show ¬ nI 9 = 2 by decide), if_neg (show ¬ nI 9 = 3 by decide), if_neg (show ¬ nI 9 = 4 by decide), if_neg (show ¬ nI 9 = 5 by decide), if_neg (show ¬ nI 9 = 6 by decide), if_neg (show ¬ nI 9 = 7 by decide), if_neg (show ¬ nI 9 = 8 by decide), if_pos (show nI 9 = 9 by decide)]
      rw [w1, w2, w3, w4, ri_nI (by omega) h31, ri_nI (by omega) h31, ri_nI (by omega) h31, ri_nI (by omega) h31]
      rw [e1, sb']
      rw [ri_nI (by omega) h31, ri_nI (by omega) h31, ri_nI (by omega) h31, ri_nI (by omega) h31]
      rw [e2, sb']
      try dsimp only
      rw [if_pos rfl, lt_eq, w6]
      exact ih (i + 6) len t li n N1 ls tS tE bl k1 k2 sv d1 d2 d3 d4 d5 rm ma mp me sd no a1 a2 b kk nn td mi wk go fl lk st fr to rn te fy fn ov wg hf hs hm lki lun rd md fd av ap mf mm ms mk sF sU fC fS fM fT fY one tw sL sT (by omega) (by omega) hC0
    by_cases o10 : op = 10
    · subst o10
      obtain ⟨r, fC1, fS1, fM1, fT1, fY1, e1, e2, hsame⟩ := p_should (rn := rn) (te := te) (fC := fC) (fS := fS) (fM := fM) (fT := fT) (fY := fY) t rfl ht hT hmi hfr hto hW (xs (i + 1)) (xs (i + 2)) (xs (i + 3)) (xs (i + 4)) (xs (i + 5))
      rw [if_neg (show ¬ nI 10 = 0 by decide), if_neg (show ¬ nI 10 = 1 by decide), if_neg (show ¬ nI 10 = 2 by decide), if_neg (show ¬ nI 10 = 3 by decide), if_neg (show ¬ nI 10 = 4 by decide), if_neg (show ¬ nI 10 = 5 by decide), if_neg (show ¬ nI 10 = 6 by decide), if_neg (show ¬ nI 10 = 7 by decide), if_neg (show ¬ nI 10 = 8 by decide), if_neg (show ¬ nI 10 = 9 by decide), if_pos (show nI 10 = 10 by decide)]
      rw [w1, w2, w3, w4, w5, ri_nI (by omega) h31, ri_nI (by omega) h31, ri_nI (by omega) h31, ri_nI (by omega) h31, ri_nI (by omega) h31]
      rw [e1, sb']
      rw [ri_nI (by omega) h31, ri_nI (by omega) h31, ri_nI (by omega) h31, ri_nI (by omega) h31, ri_nI (by omega) h31]
      rw [e2, sb']
      try dsimp only
      rw [if_pos rfl, lt_eq, w6]
      exact ih (i + 6) len t li n N1 ls tS tE bl k1 k2 sv d1 d2 d3 d4 d5 rm ma mp me sd no a1 a2 b kk nn td mi wk go fl lk st fr to rn te fy fn ov wg hf hs hm lki lun rd md fd av ap mf mm ms mk sF sU fC1 fS1 fM1 fT1 fY1 one tw sL sT (by omega) (by omega) ⟨hlen, ht, hli, hN, hP0, ho, hW, (hF.keep hsame), hk1, hk2, hsv⟩
    by_cases o11 : op = 11
    · subst o11
      have hp4 : (if xs (i + 5) = 0 then (0 : Int32) else 1) = 0 ∨ (if xs (i + 5) = 0 then (0 : Int32) else 1) = 1 := by split <;> simp
      obtain ⟨r, k11, k21, n1, fC1, fS1, fM1, fT1, fY1, fd1, e1, e2, hF1, hk⟩ := p_found (k1 := k1) (k2 := k2) t rfl ht hF (xs (i + 1)) (xs (i + 2)) (xs (i + 3)) (xs (i + 4)) (if xs (i + 5) = 0 then (0 : Int32) else 1) hp4
      rw [if_neg (show ¬ nI 11 = 0 by decide), if_neg (show ¬ nI 11 = 1 by decide), if_neg (show ¬ nI 11 = 2 by decide), if_neg (show ¬ nI 11 = 3 by decide), if_neg (show ¬ nI 11 = 4 by decide), if_neg (show ¬ nI 11 = 5 by decide), if_neg (show ¬ nI 11 = 6 by decide), if_neg (show ¬ nI 11 = 7 by decide), if_neg (show ¬ nI 11 = 8 by decide), if_neg (show ¬ nI 11 = 9 by decide), if_neg (show ¬ nI 11 = 10 by decide), if_pos (show nI 11 = 11 by decide)]
      rw [w1, w2, w3, w4, w5, ri_nI (by omega) h31, ri_nI (by omega) h31, ri_nI (by omega) h31, ri_nI (by omega) h31, ri_nI (by omega) h31, ib, bq_ok hp4, e1, sb', ri_nI (by omega) h31, ri_nI (by omega) h31, ri_nI (by omega) h31, ri_nI (by omega) h31, ri_nI (by omega) h31, ib, bq_ok hp4, e2, sb']
      try dsimp only
      rw [if_pos rfl, lt_eq, w6]
      have gk : (k11 = 0 ∨ k11 = 1 ∧ C1 (nI t) bl md mi go fl lk st fr to rn te fy fn fd1 n1 no a1 one) ∧ (k21 = 0 ∨ k21 = 1 ∧ C2 (nI t) md mi go fl lk st fr to rn te fy fn fd1 n1 a2 tw) := by
        rcases hk with ⟨rfl, rfl, rfl, rfl⟩ | ⟨y1, y2⟩
        · exact ⟨hk1, hk2⟩
        · exact ⟨Or.inl y1, Or.inl y2⟩
      exact ih (i + 6) len t li n1 N1 ls tS tE bl k11 k21 sv d1 d2 d3 d4 d5 rm ma mp me sd no a1 a2 b kk nn td mi wk go fl lk st fr to rn te fy fn ov wg hf hs hm lki lun rd md fd1 av ap mf mm ms mk sF sU fC1 fS1 fM1 fT1 fY1 one tw sL sT (by omega) (by omega) ⟨hlen, ht, hli, hN, hP0, ho, hW, hF1, gk.1, gk.2, hsv⟩
    by_cases o12 : op = 12
    · subst o12
      obtain ⟨e1, e2⟩ := p_forget k1 k2 (nI n)
      rw [if_neg (show ¬ nI 12 = 0 by decide), if_neg (show ¬ nI 12 = 1 by decide), if_neg (show ¬ nI 12 = 2 by decide), if_neg (show ¬ nI 12 = 3 by decide), if_neg (show ¬ nI 12 = 4 by decide), if_neg (show ¬ nI 12 = 5 by decide), if_neg (show ¬ nI 12 = 6 by decide), if_neg (show ¬ nI 12 = 7 by decide), if_neg (show ¬ nI 12 = 8 by decide), if_neg (show ¬ nI 12 = 9 by decide), if_neg (show ¬ nI 12 = 10 by decide), if_neg (show ¬ nI 12 = 11 by decide), if_pos (show nI 12 = 12 by decide)]
      rw [e1, sb']
      rw [e2, sb']
      try dsimp only
      rw [if_pos rfl, lt_eq, w6]
      exact ih (i + 6) len t li 0 N1 ls tS tE bl 0 0 sv d1 d2 d3 d4 d5 rm ma mp me sd no a1 a2 b kk nn td mi wk go fl lk st fr to rn te fy fn ov wg hf hs hm lki lun rd md fd av ap mf mm ms mk sF sU fC fS fM fT fY one tw sL sT (by omega) (by omega) ⟨hlen, ht, hli, hN, hP0, ho, hW, Fnd.zero, (Or.inl rfl), (Or.inl rfl), hsv⟩
    by_cases o13 : op = 13
    · subst o13
      obtain ⟨r, no1, al1, k11, one1, e1, e2, hk⟩ := p_chance (rn := rn) hT hmi hfr hto hte hfy hfn hW hF hlk hbl hk1 (xs (i + 1)) (xs (i + 2))
      rw [if_neg (show ¬ nI 13 = 0 by decide), if_neg (show ¬ nI 13 = 1 by decide), if_neg (show ¬ nI 13 = 2 by decide), if_neg (show ¬ nI 13 = 3 by decide), if_neg (show ¬ nI 13 = 4 by decide), if_neg (show ¬ nI 13 = 5 by decide), if_neg (show ¬ nI 13 = 6 by decide), if_neg (show ¬ nI 13 = 7 by decide), if_neg (show ¬ nI 13 = 8 by decide), if_neg (show ¬ nI 13 = 9 by decide), if_neg (show ¬ nI 13 = 10 by decide), if_neg (show ¬ nI 13 = 11 by decide), if_neg (show ¬ nI 13 = 12 by decide), if_pos (show nI 13 = 13 by decide)]
      rw [w1, w2, ri_nI (by omega) h31, ri_nI (by omega) h31]
      rw [e1, sb']
      rw [ri_nI (by omega) h31, ri_nI (by omega) h31]
      rw [e2, sb']
      try dsimp only
      rw [if_pos (lgr _), lt_eq, w6]
      exact ih (i + 6) len t li n N1 ls tS tE bl k11 k2 sv d1 d2 d3 d4 d5 rm ma mp me sd no1 al1 a2 b kk nn td mi wk go fl lk st fr to rn te fy fn ov wg hf hs hm lki lun rd md fd av ap mf mm ms mk sF sU fC fS fM fT fY one1 tw sL sT (by omega) (by omega) ⟨hlen, ht, hli, hN, hP0, ho, hW, hF, hk, hk2, hsv⟩
    by_cases o14 : op = 14
    · subst o14
      obtain ⟨r, al1, k21, tw1, e1, e2, hk⟩ := p_two (rn := rn) hT hmi hfr hto hte hfy hfn hW hF hlk hk2 (xs (i + 1)) (xs (i + 2)) (xs (i + 3))
      rw [if_neg (show ¬ nI 14 = 0 by decide), if_neg (show ¬ nI 14 = 1 by decide), if_neg (show ¬ nI 14 = 2 by decide), if_neg (show ¬ nI 14 = 3 by decide), if_neg (show ¬ nI 14 = 4 by decide), if_neg (show ¬ nI 14 = 5 by decide), if_neg (show ¬ nI 14 = 6 by decide), if_neg (show ¬ nI 14 = 7 by decide), if_neg (show ¬ nI 14 = 8 by decide), if_neg (show ¬ nI 14 = 9 by decide), if_neg (show ¬ nI 14 = 10 by decide), if_neg (show ¬ nI 14 = 11 by decide), if_neg (show ¬ nI 14 = 12 by decide), if_neg (show ¬ nI 14 = 13 by decide), if_pos (show nI 14 = 14 by decide)]
      rw [w1, w2, w3, ri_nI (by omega) h31, ri_nI (by omega) h31, ri_nI (by omega) h31]
      rw [e1, sb']
      rw [ri_nI (by omega) h31, ri_nI (by omega) h31, ri_nI (by omega) h31]
      rw [e2, sb']
      try dsimp only
      rw [if_pos (lgr _), lt_eq, w6]
      exact ih (i + 6) len t li n N1 ls tS tE bl k1 k21 sv d1 d2 d3 d4 d5 rm ma mp me sd no a1 al1 b kk nn td mi wk go fl lk st fr to rn te fy fn ov wg hf hs hm lki lun rd md fd av ap mf mm ms mk sF sU fC fS fM fT fY one tw1 sL sT (by omega) (by omega) ⟨hlen, ht, hli, hN, hP0, ho, hW, hF, hk1, hk, hsv⟩
    by_cases o15 : op = 15
    · subst o15
      obtain ⟨r, no1, al1, k11, one1, fC1, fS1, fM1, fT1, fY1, e1, e2, hk, hsame⟩ := p_worth (rn := rn) t rfl ht hT hmi hfr hto hte hfy hfn hW hF hlk hbl hk1 (xs (i + 1)) (xs (i + 2)) (xs (i + 3)) (xs (i + 4)) (xs (i + 5))
      rw [if_neg (show ¬ nI 15 = 0 by decide), if_neg (show ¬ nI 15 = 1 by decide), if_neg (show ¬ nI 15 = 2 by decide), if_neg (show ¬ nI 15 = 3 by decide), if_neg (show ¬ nI 15 = 4 by decide), if_neg (show ¬ nI 15 = 5 by decide), if_neg (show ¬ nI 15 = 6 by decide), if_neg (show ¬ nI 15 = 7 by decide), if_neg (show ¬ nI 15 = 8 by decide), if_neg (show ¬ nI 15 = 9 by decide), if_neg (show ¬ nI 15 = 10 by decide), if_neg (show ¬ nI 15 = 11 by decide), if_neg (show ¬ nI 15 = 12 by decide), if_neg (show ¬ nI 15 = 13 by decide), if_neg (show ¬ nI 15 = 14 by decide), if_pos (show nI 15 = 15 by decide)]
      rw [w1, w2, w3, w4, w5, ri_nI (by omega) h31, ri_nI (by omega) h31, ri_nI (by omega) h31, ri_nI (by omega) h31, ri_nI (by omega) h31]
      rw [e1, sb']
      rw [ri_nI (by omega) h31, ri_nI (by omega) h31, ri_nI (by omega) h31, ri_nI (by omega) h31, ri_nI (by omega) h31]
      rw [e2, sb']
      try dsimp only
      rw [if_pos (lgr _), lt_eq, w6]
      exact ih (i + 6) len t li n N1 ls tS tE bl k11 k2 sv d1 d2 d3 d4 d5 rm ma mp me sd no1 al1 a2 b kk nn td mi wk go fl lk st fr to rn te fy fn ov wg hf hs hm lki lun rd md fd av ap mf mm ms mk sF sU fC1 fS1 fM1 fT1 fY1 one1 tw sL sT (by omega) (by omega) ⟨hlen, ht, hli, hN, hP0, ho, hW, (hF.keep hsame), hk, hk2, hsv⟩
    by_cases o16 : op = 16
    · subst o16
      obtain ⟨r, no1, al1, k11, one1, e1, e2, hk⟩ := p_likeliest (rn := rn) hT hmi hfr hto hte hfy hfn hW hF hlk hbl hk1
      rw [if_neg (show ¬ nI 16 = 0 by decide), if_neg (show ¬ nI 16 = 1 by decide), if_neg (show ¬ nI 16 = 2 by decide), if_neg (show ¬ nI 16 = 3 by decide), if_neg (show ¬ nI 16 = 4 by decide), if_neg (show ¬ nI 16 = 5 by decide), if_neg (show ¬ nI 16 = 6 by decide), if_neg (show ¬ nI 16 = 7 by decide), if_neg (show ¬ nI 16 = 8 by decide), if_neg (show ¬ nI 16 = 9 by decide), if_neg (show ¬ nI 16 = 10 by decide), if_neg (show ¬ nI 16 = 11 by decide), if_neg (show ¬ nI 16 = 12 by decide), if_neg (show ¬ nI 16 = 13 by decide), if_neg (show ¬ nI 16 = 14 by decide), if_neg (show ¬ nI 16 = 15 by decide), if_pos (show nI 16 = 16 by decide)]
      rw [e1, sb']
      rw [e2, sb']
      try dsimp only
      rw [if_pos rfl, lt_eq, w6]
      exact ih (i + 6) len t li n N1 ls tS tE bl k11 k2 sv d1 d2 d3 d4 d5 rm ma mp me sd no1 al1 a2 b kk nn td mi wk go fl lk st fr to rn te fy fn ov wg hf hs hm lki lun rd md fd av ap mf mm ms mk sF sU fC fS fM fT fY one1 tw sL sT (by omega) (by omega) ⟨hlen, ht, hli, hN, hP0, ho, hW, hF, hk, hk2, hsv⟩
    by_cases o17 : op = 17
    · subst o17
      obtain ⟨r, sL1, sT1, sF1, sU1, e1, e2, hsame⟩ := p_lacks (rn := rn) hT hmi hfr hto hte hfy hfn hW hF hd (xs (i + 1))
      rw [if_neg (show ¬ nI 17 = 0 by decide), if_neg (show ¬ nI 17 = 1 by decide), if_neg (show ¬ nI 17 = 2 by decide), if_neg (show ¬ nI 17 = 3 by decide), if_neg (show ¬ nI 17 = 4 by decide), if_neg (show ¬ nI 17 = 5 by decide), if_neg (show ¬ nI 17 = 6 by decide), if_neg (show ¬ nI 17 = 7 by decide), if_neg (show ¬ nI 17 = 8 by decide), if_neg (show ¬ nI 17 = 9 by decide), if_neg (show ¬ nI 17 = 10 by decide), if_neg (show ¬ nI 17 = 11 by decide), if_neg (show ¬ nI 17 = 12 by decide), if_neg (show ¬ nI 17 = 13 by decide), if_neg (show ¬ nI 17 = 14 by decide), if_neg (show ¬ nI 17 = 15 by decide), if_neg (show ¬ nI 17 = 16 by decide), if_pos (show nI 17 = 17 by decide)]
      rw [w1, ri_nI (by omega) h31]
      rw [e1, sb']
      rw [ri_nI (by omega) h31]
      rw [e2, sb']
      try dsimp only
      rw [if_pos rfl, lt_eq, w6]
      exact ih (i + 6) len t li n N1 ls tS tE bl k1 k2 sv d1 d2 d3 d4 d5 rm ma mp me sd no a1 a2 b kk nn td mi wk go fl lk st fr to rn te fy fn ov wg hf hs hm lki lun rd md fd av ap mf mm ms mk sF1 sU1 fC fS fM fT fY one tw sL1 sT1 (by omega) (by omega) ⟨hlen, ht, hli, hN, hP0, ho, (hW.keep hsame), hF, hk1, hk2, hsv⟩
    by_cases o18 : op = 18
    · subst o18
      obtain ⟨r, sv1, hf1, hs1, hm1, N2, av1, ap1, mf1, e1, e2, hN2, hk⟩ := p_fewest hT hd hnt hwk hlk ho hli hN hsv av ap mf (xs (i + 1))
      rw [if_neg (show ¬ nI 18 = 0 by decide), if_neg (show ¬ nI 18 = 1 by decide), if_neg (show ¬ nI 18 = 2 by decide), if_neg (show ¬ nI 18 = 3 by decide), if_neg (show ¬ nI 18 = 4 by decide), if_neg (show ¬ nI 18 = 5 by decide), if_neg (show ¬ nI 18 = 6 by decide), if_neg (show ¬ nI 18 = 7 by decide), if_neg (show ¬ nI 18 = 8 by decide), if_neg (show ¬ nI 18 = 9 by decide), if_neg (show ¬ nI 18 = 10 by decide), if_neg (show ¬ nI 18 = 11 by decide), if_neg (show ¬ nI 18 = 12 by decide), if_neg (show ¬ nI 18 = 13 by decide), if_neg (show ¬ nI 18 = 14 by decide), if_neg (show ¬ nI 18 = 15 by decide), if_neg (show ¬ nI 18 = 16 by decide), if_neg (show ¬ nI 18 = 17 by decide), if_pos (show nI 18 = 18 by decide)]
      rw [w1, ri_nI (by omega) h31]
      rw [e1, sb']
      rw [ri_nI (by omega) h31]
      rw [e2, sb']
      try dsimp only
      rw [if_pos rfl, lt_eq, w6]
      exact ih (i + 6) len t li n N2 ls tS tE bl k1 k2 sv1 d1 d2 d3 d4 d5 rm ma mp me sd no a1 a2 b kk nn td mi wk go fl lk st fr to rn te fy fn ov wg hf1 hs1 hm1 lki lun rd md fd av1 ap1 mf1 mm ms mk sF sU fC fS fM fT fY one tw sL sT (by omega) (by omega) ⟨hlen, ht, hli, hN2, hP0, ho, hW, hF, hk1, hk2, hk⟩
    by_cases o19 : op = 19
    · subst o19
      obtain ⟨r, sv1, hf1, hs1, hm1, N2, av1, ap1, mm1, e1, e2, hN2, hk⟩ := p_mean hT hd hnt hwk hlk ho hli hN hsv av ap mm (xs (i + 1))
      rw [if_neg (show ¬ nI 19 = 0 by decide), if_neg (show ¬ nI 19 = 1 by decide), if_neg (show ¬ nI 19 = 2 by decide), if_neg (show ¬ nI 19 = 3 by decide), if_neg (show ¬ nI 19 = 4 by decide), if_neg (show ¬ nI 19 = 5 by decide), if_neg (show ¬ nI 19 = 6 by decide), if_neg (show ¬ nI 19 = 7 by decide), if_neg (show ¬ nI 19 = 8 by decide), if_neg (show ¬ nI 19 = 9 by decide), if_neg (show ¬ nI 19 = 10 by decide), if_neg (show ¬ nI 19 = 11 by decide), if_neg (show ¬ nI 19 = 12 by decide), if_neg (show ¬ nI 19 = 13 by decide), if_neg (show ¬ nI 19 = 14 by decide), if_neg (show ¬ nI 19 = 15 by decide), if_neg (show ¬ nI 19 = 16 by decide), if_neg (show ¬ nI 19 = 17 by decide), if_neg (show ¬ nI 19 = 18 by decide), if_pos (show nI 19 = 19 by decide)]
      rw [w1, ri_nI (by omega) h31]
      rw [e1, sb']
      rw [ri_nI (by omega) h31]
      rw [e2, sb']
      try dsimp only
      rw [if_pos rfl, lt_eq, w6]
      exact ih (i + 6) len t li n N2 ls tS tE bl k1 k2 sv1 d1 d2 d3 d4 d5 rm ma mp me sd no a1 a2 b kk nn td mi wk go fl lk st fr to rn te fy fn ov wg hf1 hs1 hm1 lki lun rd md fd av1 ap1 mf mm1 ms mk sF sU fC fS fM fT fY one tw sL sT (by omega) (by omega) ⟨hlen, ht, hli, hN2, hP0, ho, hW, hF, hk1, hk2, hk⟩
    by_cases o20 : op = 20
    · subst o20
      obtain ⟨r, sv1, hf1, hs1, hm1, N2, av1, ap1, ms1, e1, e2, hN2, hk⟩ := p_soon hT hd hnt hwk hlk ho hli hN hsv av ap ms (xs (i + 1)) (xs (i + 2))
      rw [if_neg (show ¬ nI 20 = 0 by decide), if_neg (show ¬ nI 20 = 1 by decide), if_neg (show ¬ nI 20 = 2 by decide), if_neg (show ¬ nI 20 = 3 by decide), if_neg (show ¬ nI 20 = 4 by decide), if_neg (show ¬ nI 20 = 5 by decide), if_neg (show ¬ nI 20 = 6 by decide), if_neg (show ¬ nI 20 = 7 by decide), if_neg (show ¬ nI 20 = 8 by decide), if_neg (show ¬ nI 20 = 9 by decide), if_neg (show ¬ nI 20 = 10 by decide), if_neg (show ¬ nI 20 = 11 by decide), if_neg (show ¬ nI 20 = 12 by decide), if_neg (show ¬ nI 20 = 13 by decide), if_neg (show ¬ nI 20 = 14 by decide), if_neg (show ¬ nI 20 = 15 by decide), if_neg (show ¬ nI 20 = 16 by decide), if_neg (show ¬ nI 20 = 17 by decide), if_neg (show ¬ nI 20 = 18 by decide), if_neg (show ¬ nI 20 = 19 by decide), if_pos (show nI 20 = 20 by decide)]
      rw [w1, w2, ri_nI (by omega) h31, ri_nI (by omega) h31]
      rw [e1, sb']
      rw [ri_nI (by omega) h31, ri_nI (by omega) h31]
      rw [e2, sb']
      try dsimp only
      rw [if_pos rfl, lt_eq, w6]
      exact ih (i + 6) len t li n N2 ls tS tE bl k1 k2 sv1 d1 d2 d3 d4 d5 rm ma mp me sd no a1 a2 b kk nn td mi wk go fl lk st fr to rn te fy fn ov wg hf1 hs1 hm1 lki lun rd md fd av1 ap1 mf mm ms1 mk sF sU fC fS fM fT fY one tw sL sT (by omega) (by omega) ⟨hlen, ht, hli, hN2, hP0, ho, hW, hF, hk1, hk2, hk⟩
    by_cases o21 : op = 21
    · subst o21
      obtain ⟨r, lki1, mk1, e1, e2⟩ := p_row (lk := lk) hT hd hwk ho lki mk (xs (i + 1)) (xs (i + 2)) (xs (i + 3)) (xs (i + 4))
      rw [if_neg (show ¬ nI 21 = 0 by decide), if_neg (show ¬ nI 21 = 1 by decide), if_neg (show ¬ nI 21 = 2 by decide), if_neg (show ¬ nI 21 = 3 by decide), if_neg (show ¬ nI 21 = 4 by decide), if_neg (show ¬ nI 21 = 5 by decide), if_neg (show ¬ nI 21 = 6 by decide), if_neg (show ¬ nI 21 = 7 by decide), if_neg (show ¬ nI 21 = 8 by decide), if_neg (show ¬ nI 21 = 9 by decide), if_neg (show ¬ nI 21 = 10 by decide), if_neg (show ¬ nI 21 = 11 by decide), if_neg (show ¬ nI 21 = 12 by decide), if_neg (show ¬ nI 21 = 13 by decide), if_neg (show ¬ nI 21 = 14 by decide), if_neg (show ¬ nI 21 = 15 by decide), if_neg (show ¬ nI 21 = 16 by decide), if_neg (show ¬ nI 21 = 17 by decide), if_neg (show ¬ nI 21 = 18 by decide), if_neg (show ¬ nI 21 = 19 by decide), if_neg (show ¬ nI 21 = 20 by decide), if_pos (show nI 21 = 21 by decide)]
      rw [w1, w2, w3, w4, ri_nI (by omega) h31, ri_nI (by omega) h31, ri_nI (by omega) h31, ri_nI (by omega) h31]
      rw [e1, sb']
      rw [ri_nI (by omega) h31, ri_nI (by omega) h31, ri_nI (by omega) h31, ri_nI (by omega) h31]
      rw [e2, sb']
      try dsimp only
      rw [if_pos rfl, lt_eq, w6]
      exact ih (i + 6) len t li n N1 ls tS tE bl k1 k2 sv d1 d2 d3 d4 d5 rm ma mp me sd no a1 a2 b kk nn td mi wk go fl lk st fr to rn te fy fn ov wg hf hs hm lki1 lun rd md fd av ap mf mm ms mk1 sF sU fC fS fM fT fY one tw sL sT (by omega) (by omega) hC0
    by_cases o22 : op = 22
    · subst o22
      obtain ⟨r, e1, e2⟩ := p_answers (lk := lk) hT hd hwk ho (xs (i + 1)) (xs (i + 2)) (xs (i + 3)) (xs (i + 4))
      rw [if_neg (show ¬ nI 22 = 0 by decide), if_neg (show ¬ nI 22 = 1 by decide), if_neg (show ¬ nI 22 = 2 by decide), if_neg (show ¬ nI 22 = 3 by decide), if_neg (show ¬ nI 22 = 4 by decide), if_neg (show ¬ nI 22 = 5 by decide), if_neg (show ¬ nI 22 = 6 by decide), if_neg (show ¬ nI 22 = 7 by decide), if_neg (show ¬ nI 22 = 8 by decide), if_neg (show ¬ nI 22 = 9 by decide), if_neg (show ¬ nI 22 = 10 by decide), if_neg (show ¬ nI 22 = 11 by decide), if_neg (show ¬ nI 22 = 12 by decide), if_neg (show ¬ nI 22 = 13 by decide), if_neg (show ¬ nI 22 = 14 by decide), if_neg (show ¬ nI 22 = 15 by decide), if_neg (show ¬ nI 22 = 16 by decide), if_neg (show ¬ nI 22 = 17 by decide), if_neg (show ¬ nI 22 = 18 by decide), if_neg (show ¬ nI 22 = 19 by decide), if_neg (show ¬ nI 22 = 20 by decide), if_neg (show ¬ nI 22 = 21 by decide), if_pos (show nI 22 = 22 by decide)]
      rw [w1, w2, w3, w4, ri_nI (by omega) h31, ri_nI (by omega) h31, ri_nI (by omega) h31, ri_nI (by omega) h31]
      rw [e1, sb']
      rw [ri_nI (by omega) h31, ri_nI (by omega) h31, ri_nI (by omega) h31, ri_nI (by omega) h31]
      rw [e2, sb']
      try dsimp only
      rw [if_pos rfl, lt_eq, w6]
      exact ih (i + 6) len t li n N1 ls tS tE bl k1 k2 sv d1 d2 d3 d4 d5 rm ma mp me sd no a1 a2 b kk nn td mi wk go fl lk st fr to rn te fy fn ov wg hf hs hm lki lun rd md fd av ap mf mm ms mk sF sU fC fS fM fT fY one tw sL sT (by omega) (by omega) hC0
    by_cases o23 : op = 23
    · subst o23
      obtain ⟨r, lun1, av1, ap1, e1, e2⟩ := p_hang (wk := wk) (lk := lk) t rfl ht hT hd ho lun av ap (xs (i + 1))
      rw [if_neg (show ¬ nI 23 = 0 by decide), if_neg (show ¬ nI 23 = 1 by decide), if_neg (show ¬ nI 23 = 2 by decide), if_neg (show ¬ nI 23 = 3 by decide), if_neg (show ¬ nI 23 = 4 by decide), if_neg (show ¬ nI 23 = 5 by decide), if_neg (show ¬ nI 23 = 6 by decide), if_neg (show ¬ nI 23 = 7 by decide), if_neg (show ¬ nI 23 = 8 by decide), if_neg (show ¬ nI 23 = 9 by decide), if_neg (show ¬ nI 23 = 10 by decide), if_neg (show ¬ nI 23 = 11 by decide), if_neg (show ¬ nI 23 = 12 by decide), if_neg (show ¬ nI 23 = 13 by decide), if_neg (show ¬ nI 23 = 14 by decide), if_neg (show ¬ nI 23 = 15 by decide), if_neg (show ¬ nI 23 = 16 by decide), if_neg (show ¬ nI 23 = 17 by decide), if_neg (show ¬ nI 23 = 18 by decide), if_neg (show ¬ nI 23 = 19 by decide), if_neg (show ¬ nI 23 = 20 by decide), if_neg (show ¬ nI 23 = 21 by decide), if_neg (show ¬ nI 23 = 22 by decide), if_pos (show nI 23 = 23 by decide)]
      rw [w1, ri_nI (by omega) h31]
      rw [e1, sb']
      rw [ri_nI (by omega) h31]
      rw [e2, sb']
      try dsimp only
      rw [if_pos rfl, lt_eq, w6]
      exact ih (i + 6) len t li n N1 ls tS tE bl k1 k2 sv d1 d2 d3 d4 d5 rm ma mp me sd no a1 a2 b kk nn td mi wk go fl lk st fr to rn te fy fn ov wg hf hs hm lki lun1 rd md fd av1 ap1 mf mm ms mk sF sU fC fS fM fT fY one tw sL sT (by omega) (by omega) hC0
    by_cases o24 : op = 24
    · subst o24
      obtain ⟨r, sv1, hf1, hs1, hm1, N2, d11, d21, d31, d41, d51, sd1, av1, ap1, ms1, e1, e2, hN2, hk⟩ := p_day (fy := fy) (fn := fn) hT hd hnt hwk hlk ho hli hN hsv av ap ms d1 d2 d3 d4 d5 sd (xs (i + 1)) (xs (i + 2)) (xs (i + 3))
      rw [if_neg (show ¬ nI 24 = 0 by decide), if_neg (show ¬ nI 24 = 1 by decide), if_neg (show ¬ nI 24 = 2 by decide), if_neg (show ¬ nI 24 = 3 by decide), if_neg (show ¬ nI 24 = 4 by decide), if_neg (show ¬ nI 24 = 5 by decide), if_neg (show ¬ nI 24 = 6 by decide), if_neg (show ¬ nI 24 = 7 by decide), if_neg (show ¬ nI 24 = 8 by decide), if_neg (show ¬ nI 24 = 9 by decide), if_neg (show ¬ nI 24 = 10 by decide), if_neg (show ¬ nI 24 = 11 by decide), if_neg (show ¬ nI 24 = 12 by decide), if_neg (show ¬ nI 24 = 13 by decide), if_neg (show ¬ nI 24 = 14 by decide), if_neg (show ¬ nI 24 = 15 by decide), if_neg (show ¬ nI 24 = 16 by decide), if_neg (show ¬ nI 24 = 17 by decide), if_neg (show ¬ nI 24 = 18 by decide), if_neg (show ¬ nI 24 = 19 by decide), if_neg (show ¬ nI 24 = 20 by decide), if_neg (show ¬ nI 24 = 21 by decide), if_neg (show ¬ nI 24 = 22 by decide), if_neg (show ¬ nI 24 = 23 by decide), if_pos (show nI 24 = 24 by decide)]
      rw [w1, w2, w3, ri_nI (by omega) h31, ri_nI (by omega) h31, ri_nI (by omega) h31]
      rw [e1, sb']
      rw [ri_nI (by omega) h31, ri_nI (by omega) h31, ri_nI (by omega) h31]
      rw [e2, sb']
      try dsimp only
      rw [if_pos rfl, lt_eq, w6]
      exact ih (i + 6) len t li n N2 ls tS tE bl k1 k2 sv1 d11 d21 d31 d41 d51 rm ma mp me sd1 no a1 a2 b kk nn td mi wk go fl lk st fr to rn te fy fn ov wg hf1 hs1 hm1 lki lun rd md fd av1 ap1 mf mm ms1 mk sF sU fC fS fM fT fY one tw sL sT (by omega) (by omega) ⟨hlen, ht, hli, hN2, hP0, ho, hW, hF, hk1, hk2, hk⟩
    by_cases o25 : op = 25
    · subst o25
      obtain ⟨r, e1, e2⟩ := p_count (lk := lk) ht hw0 (xs (i + 1)) (nI len) (nI li) bl (nI n)
      rw [if_neg (show ¬ nI 25 = 0 by decide), if_neg (show ¬ nI 25 = 1 by decide), if_neg (show ¬ nI 25 = 2 by decide), if_neg (show ¬ nI 25 = 3 by decide), if_neg (show ¬ nI 25 = 4 by decide), if_neg (show ¬ nI 25 = 5 by decide), if_neg (show ¬ nI 25 = 6 by decide), if_neg (show ¬ nI 25 = 7 by decide), if_neg (show ¬ nI 25 = 8 by decide), if_neg (show ¬ nI 25 = 9 by decide), if_neg (show ¬ nI 25 = 10 by decide), if_neg (show ¬ nI 25 = 11 by decide), if_neg (show ¬ nI 25 = 12 by decide), if_neg (show ¬ nI 25 = 13 by decide), if_neg (show ¬ nI 25 = 14 by decide), if_neg (show ¬ nI 25 = 15 by decide), if_neg (show ¬ nI 25 = 16 by decide), if_neg (show ¬ nI 25 = 17 by decide), if_neg (show ¬ nI 25 = 18 by decide), if_neg (show ¬ nI 25 = 19 by decide), if_neg (show ¬ nI 25 = 20 by decide), if_neg (show ¬ nI 25 = 21 by decide), if_neg (show ¬ nI 25 = 22 by decide), if_neg (show ¬ nI 25 = 23 by decide), if_neg (show ¬ nI 25 = 24 by decide), if_pos (show nI 25 = 25 by decide)]
      rw [w1, ri_nI (by omega) h31]
      rw [e1, sb']
      rw [ri_nI (by omega) h31]
      rw [e2, sb']
      try dsimp only
      rw [if_pos rfl, lt_eq, w6]
      exact ih (i + 6) len t li n N1 ls tS tE bl k1 k2 sv d1 d2 d3 d4 d5 rm ma mp me sd no a1 a2 b kk nn td mi wk go fl lk st fr to rn te fy fn ov wg hf hs hm lki lun rd md fd av ap mf mm ms mk sF sU fC fS fM fT fY one tw sL sT (by omega) (by omega) hC0
    have q0 : ¬ nI op = 0 := fun w => o0 ((nI_eq (b := 0) (by omega) (by decide)).mp w)
    have q1 : ¬ nI op = 1 := fun w => o1 ((nI_eq (b := 1) (by omega) (by decide)).mp w)
    have q2 : ¬ nI op = 2 := fun w => o2 ((nI_eq (b := 2) (by omega) (by decide)).mp w)
    have q3 : ¬ nI op = 3 := fun w => o3 ((nI_eq (b := 3) (by omega) (by decide)).mp w)
    have q4 : ¬ nI op = 4 := fun w => o4 ((nI_eq (b := 4) (by omega) (by decide)).mp w)
    have q5 : ¬ nI op = 5 := fun w => o5 ((nI_eq (b := 5) (by omega) (by decide)).mp w)
    have q6 : ¬ nI op = 6 := fun w => o6 ((nI_eq (b := 6) (by omega) (by decide)).mp w)
    have q7 : ¬ nI op = 7 := fun w => o7 ((nI_eq (b := 7) (by omega) (by decide)).mp w)
    have q8 : ¬ nI op = 8 := fun w => o8 ((nI_eq (b := 8) (by omega) (by decide)).mp w)
    have q9 : ¬ nI op = 9 := fun w => o9 ((nI_eq (b := 9) (by omega) (by decide)).mp w)
    have q10 : ¬ nI op = 10 := fun w => o10 ((nI_eq (b := 10) (by omega) (by decide)).mp w)
    have q11 : ¬ nI op = 11 := fun w => o11 ((nI_eq (b := 11) (by omega) (by decide)).mp w)
    have q12 : ¬ nI op = 12 := fun w => o12 ((nI_eq (b := 12) (by omega) (by decide)).mp w)
    have q13 : ¬ nI op = 13 := fun w => o13 ((nI_eq (b := 13) (by omega) (by decide)).mp w)
    have q14 : ¬ nI op = 14 := fun w => o14 ((nI_eq (b := 14) (by omega) (by decide)).mp w)
    have q15 : ¬ nI op = 15 := fun w => o15 ((nI_eq (b := 15) (by omega) (by decide)).mp w)
    have q16 : ¬ nI op = 16 := fun w => o16 ((nI_eq (b := 16) (by omega) (by decide)).mp w)
    have q17 : ¬ nI op = 17 := fun w => o17 ((nI_eq (b := 17) (by omega) (by decide)).mp w)
    have q18 : ¬ nI op = 18 := fun w => o18 ((nI_eq (b := 18) (by omega) (by decide)).mp w)
    have q19 : ¬ nI op = 19 := fun w => o19 ((nI_eq (b := 19) (by omega) (by decide)).mp w)
    have q20 : ¬ nI op = 20 := fun w => o20 ((nI_eq (b := 20) (by omega) (by decide)).mp w)
    have q21 : ¬ nI op = 21 := fun w => o21 ((nI_eq (b := 21) (by omega) (by decide)).mp w)
    have q22 : ¬ nI op = 22 := fun w => o22 ((nI_eq (b := 22) (by omega) (by decide)).mp w)
    have q23 : ¬ nI op = 23 := fun w => o23 ((nI_eq (b := 23) (by omega) (by decide)).mp w)
    have q24 : ¬ nI op = 24 := fun w => o24 ((nI_eq (b := 24) (by omega) (by decide)).mp w)
    have q25 : ¬ nI op = 25 := fun w => o25 ((nI_eq (b := 25) (by omega) (by decide)).mp w)
    rw [if_neg q0, if_neg q1, if_neg q2, if_neg q3, if_neg q4, if_neg q5, if_neg q6, if_neg q7, if_neg q8, if_neg q9, if_neg q10, if_neg q11, if_neg q12, if_neg q13, if_neg q14, if_neg q15, if_neg q16, if_neg q17, if_neg q18, if_neg q19, if_neg q20, if_neg q21, if_neg q22, if_neg q23, if_neg q24, if_neg q25, lt_eq, w6]
    exact ih (i + 6) len t li n N1 ls tS tE bl k1 k2 sv d1 d2 d3 d4 d5 rm ma mp me sd no a1 a2 b kk nn td mi wk go fl lk st fr to rn te fy fn ov wg hf hs hm lki lun rd md fd av ap mf mm ms mk sF sU fC fS fM fT fY one tw sL sT (by omega) (by omega) hC0
