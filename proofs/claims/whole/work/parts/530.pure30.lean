/-! looked at again; the town -/
section
variable {th : Int32} {md td mi go fl st fr to ov : Nat → Int32}
theorem water10 (hT : Tree th md) (hd : ∀ v, v < 12 → hb th v = true → td v = md v) (ho : ∀ x, x < 12 → ov x = nI (ab th md x)) (wg : Nat → Int32) (sL sT : Nat → Nat → Int32) (sF sU : Nat → Int32) : ∃ (wg' : Nat → Int32) (sL' sT' : Nat → Nat → Int32) (sF' sU' : Nat → Int32), f_X8_renew td mi go fl st fr to th ov wg sL sT sF sU = some (wg', sL', sT', sF', sU') ∧ Wat th md mi go fl st fr to wg' sL' sT' sF' sU' := by
  unfold f_X8_renew
  obtain ⟨⟨yF, yL, yT, yU, yW⟩, ⟨h1, h2⟩, e⟩ := its (S := (Nat → Int32) × (Nat → Nat → Int32) × (Nat → Nat → Int32) × (Nat → Int32) × (Nat → Int32)) 12 (fun i s => (∀ v, v < i → s.2.2.2.2 v = smS fl (ab th md v) 12) ∧ ∀ v, v < i → hb th v = true → Sm md mi go s.2.1 s.2.2.1 s.1 s.2.2.2.1 (24 + 3 * v) v (st v) (fr v) (to v)) (fun N i s => LX8_renew_2 td mi go fl st fr to th ov (fun _ f8 f9 f10 f11 f12 => some (f12, f9, f10, f8, f11)) N (nI i) s.1 s.2.1 s.2.2.1 s.2.2.2.1 s.2.2.2.2) (fun s => some (s.2.2.2.2, s.2.1, s.2.2.1, s.1, s.2.2.2.1)) (by
    intro N s _
    show LX8_renew_2 td mi go fl st fr to th ov _ (N + 1) (nI 12) s.1 s.2.1 s.2.2.1 s.2.2.2.1 s.2.2.2.2 = _
    rw [LX8_renew_2_s, if_pos (by decide)]) (by
    rintro N i ⟨yF, yL, yT, yU, yW⟩ hi ⟨h1, h2⟩
    dsimp only at h1 h2 ⊢
    rw [LX8_renew_2_s, if_neg (lt12 hi), ri_nI hi (by decide), ho i hi, infl10 fl (ab_lt th md i), sb', wi_nI hi (by decide), has10, sb']
    have hw : ∀ v, v < i + 1 → upd yW i (smS fl (ab th md i) 12) v = smS fl (ab th md v) 12 := fun v hv => by
      by_cases q : v = i
      · subst q; rw [pk_us]
      · rw [pk_un q]; exact h1 v (by omega)
    by_cases q : hb th i = true
    · obtain ⟨uL, uT, e1, e2, e3⟩ := fol10 (mi := mi) (go := go) hT hd (24 + 3 * i) hi q (st i) (fr i) (to i) yL yT yF yU
      rw [if_pos q, if_neg one_ne, ix_nI hi (by decide), ri_nI hi (by decide), ri_nI hi (by decide), ri_nI hi (by decide), e1, sb', sb', lt_eq, nI_1]
      refine ⟨(va_up yF (24 + 3 * i) (fr i), uL, uT, va_up yU (24 + 3 * i) (to i), upd yW i (smS fl (ab th md i) 12)), ⟨hw, fun v hv tv => ?_⟩, rfl⟩
      dsimp only
      by_cases w : v = i
      · subst w; exact e3
      · have hne : 24 + 3 * v ≠ 24 + 3 * i := by omega
        exact (h2 v (by omega) tv).keep (e2 _ hne).1 (e2 _ hne).2 (va_up_ne _ _ hne) (va_up_ne _ _ hne)
    · rw [if_neg q, if_pos rfl, sb', lt_eq, nI_1]
      refine ⟨(yF, yL, yT, yU, upd yW i (smS fl (ab th md i) 12)), ⟨hw, fun v hv tv => ?_⟩, rfl⟩
      dsimp only
      by_cases w : v = i
      · subst w; exact absurd tv q
      · exact h2 v (by omega) tv) FU 0 (sF, sL, sT, sU, wg) (by omega) (fu_lt (by omega)) ⟨fun v hv => by omega, fun v hv => by omega⟩
  dsimp only at h1 h2 e
  exact ⟨yW, yL, yT, yF, yU, e, h1, h2⟩
theorem look10 {lk : Nat → Int32} (hT : Tree th md) (hd : ∀ v, v < 12 → hb th v = true → td v = md v) (src : Int32) (ov wg : Nat → Int32) (k1 k2 sv : Int32) (sL sT : Nat → Nat → Int32) (sF sU : Nat → Int32) : ∃ (ov' wg' : Nat → Int32) (sL' sT' : Nat → Nat → Int32) (sF' sU' : Nat → Int32), f_X10_lookAgain td mi go fl lk st fr to th src ov wg k1 k2 sv sL sT sF sU = some (nI (srN th lk), ov', wg', 0, 0, 0, sL', sT', sF', sU') ∧ (∀ x, x < 12 → ov' x = nI (ab th md x)) ∧ Wat th md mi go fl st fr to wg' sL' sT' sF' sU' := by
  unfold f_X10_lookAgain f_X6_doubt f_X2_doubt
  obtain ⟨ov', e1, h1⟩ := ren10 (lk := lk) hT hd src ov
  obtain ⟨wg', sL', sT', sF', sU', e2, h2⟩ := water10 (mi := mi) (go := go) (fl := fl) (st := st) (fr := fr) (to := to) hT hd h1 wg sL sT sF sU
  refine ⟨ov', wg', sL', sT', sF', sU', ?_, h1, h2⟩
  rw [e1, sb']
  dsimp only
  rw [e2, sb', sb', sb']
end
/-- promise 5 -/
theorem p_town {len : Nat} (hl : len ≤ 200) {b : Nat → Int32} {td md mi wk go fl lk st fr to rn te fy fn : Nat → Int32} {th li bl : Int32} (hP : Pl td md mi wk lk fr to te fy fn th li bl) {ov wg : Nat → Int32} (ho : ∀ x, x < 12 → ov x = nI (ab th md x)) {sL sT : Nat → Nat → Int32} {sF sU : Nat → Int32} (hW : Wat th md mi go fl st fr to wg sL sT sF sU) (ls tS tE : Int32) (k n rd : Nat → Int32) (rm ma mp me k1 k2 sv : Int32) : ∃ (r : Int32) (len' : Nat) (ls' tS' tE' : Int32) (k' n' rd' : Nat → Int32) (td' md' mi' wk' go' fl' lk' st' fr' to' rn' te' fy' fn' : Nat → Int32) (th' li' bl' : Int32) (ov' wg' : Nat → Int32) (k1' k2' sv' : Int32) (sL' sT' : Nat → Nat → Int32) (sF' sU' : Nat → Int32) (rm' ma' mp' me' : Int32), f_X10_town (nI len) ls tS tE b k n td mi wk go fl lk st fr to rn te fy fn th li bl (nI (srN th lk)) ov wg k1 k2 sv sL sT sF sU = some (r, nI len', ls', tS', tE', k', n', td', mi', wk', go', fl', lk', st', fr', to', rn', te', fy', fn', th', li', bl', nI (srN th' lk'), ov', wg', k1', k2', sv', sL', sT', sF', sU') ∧ f_X11_town b rd md mi wk go fl lk st fr to rn te fy fn (nI len) rm th li bl ma mp me = some (r, rd', md', mi', wk', go', fl', lk', st', fr', to', rn', te', fy', fn', nI len', rm', th', li', bl', ma', mp', me') ∧ len' ≤ 200 ∧ Pl td' md' mi' wk' lk' fr' to' te' fy' fn' th' li' bl' ∧ (∀ x, x < 12 → ov' x = nI (ab th' md' x)) ∧ Wat th' md' mi' go' fl' st' fr' to' wg' sL' sT' sF' sU' ∧ ((k1' = 0 ∧ k2' = 0 ∧ sv' = 0) ∨ (md' = md ∧ mi' = mi ∧ wk' = wk ∧ go' = go ∧ fl' = fl ∧ lk' = lk ∧ st' = st ∧ fr' = fr ∧ to' = to ∧ rn' = rn ∧ te' = te ∧ fy' = fy ∧ fn' = fn ∧ th' = th ∧ li' = li ∧ bl' = bl ∧ k1' = k1 ∧ k2' = k2 ∧ sv' = sv)) := by
  unfold f_X10_town f_X11_town
  obtain ⟨r, L1, ts1, te1, kk, nn, rd1, rm1, at1, pl1, en1, e1, e2, e3⟩ := fault2 (b := b) hl ls tS tE k n rd rm ma mp me
  rw [e1, e2, sb', sb']
  dsimp only
  by_cases hr : r = -1
  · obtain ⟨L, hL, rfl, rfl, hLn⟩ := e3 hr
    rw [if_pos hr, if_pos hr]
    obtain ⟨td', md', mi', wk', go', fl', lk', st', fr', to', rn', te', fy', fn', th', li', bl', hP', z1, z2⟩ := town2 hL hLn r ts1 te1 at1 pl1 en1
      (fun x20 f21 f22 f23 f24 x25 f26 f27 x28 f29 f30 f31 f32 x33 f34 f35 f36 => (f_X5_empty (nI len)).bind fun q42 => (f_X10_lookAgain f21 f27 f23 f24 f26 f31 f22 f34 x33 (nI (srN th lk)) ov wg k1 k2 sv sL sT sF sU).bind fun q43 => some (nI L, q42.2, nI L, ts1, te1, kk, nn, f21, f27, f29, f23, f24, f26, f31, f22, f34, f30, f32, f36, f35, x33, x25, x28, q43.1, q43.2.1, q43.2.2.1, q43.2.2.2.1, q43.2.2.2.2.1, q43.2.2.2.2.2.1, q43.2.2.2.2.2.2.1, q43.2.2.2.2.2.2.2.1, q43.2.2.2.2.2.2.2.2.1, q43.2.2.2.2.2.2.2.2.2))
      (fun x20 x21 f22 f23 f24 f25 f26 f27 x28 f29 f30 f31 f32 f33 x34 f35 f36 => some (nI L, rd1, f22, f30, f36, f27, f23, f29, f32, f25, f35, f31, f33, f26, f24, 0, nI L, x34, x28, x21, at1, pl1, en1)) L 0 (by omega) td md mi wk go fl lk st fr to rn te fy fn th li bl hP FU FU (fu_lt (by omega)) (fu_lt (by omega))
    obtain ⟨ov', wg', sL', sT', sF', sU', l1, l2, l3⟩ := look10 (mi := mi') (go := go') (fl := fl') (st := st') (fr := fr') (to := to') (lk := lk') hP'.2.1 hP'.2.2.1 (nI (srN th lk)) ov wg k1 k2 sv sL sT sF sU
    refine ⟨nI L, 0, nI L, ts1, te1, kk, nn, rd1, td', md', mi', wk', go', fl', lk', st', fr', to', rn', te', fy', fn', th', li', bl', ov', wg', 0, 0, 0, sL', sT', sF', sU', nI L, at1, pl1, en1, z1.trans ?_, z2, by omega, hP', l2, l3, Or.inl ⟨rfl, rfl, rfl⟩⟩
    rw [show f_X5_empty (nI len) = some (nI len, 0) from rfl, sb', l1, sb']
    rfl
  · rw [if_neg hr, if_neg hr]
    exact ⟨-4, len, _, _, _, _, _, rd1, td, md, mi, wk, go, fl, lk, st, fr, to, rn, te, fy, fn, th, li, bl, ov, wg, k1, k2, sv, sL, sT, sF, sU, _, _, _, _, rfl, rfl, hl, hP, ho, hW, Or.inr ⟨rfl, rfl, rfl, rfl, rfl, rfl, rfl, rfl, rfl, rfl, rfl, rfl, rfl, rfl, rfl, rfl, rfl, rfl, rfl⟩⟩
