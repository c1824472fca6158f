/-! the table of minutes of the reference -/
section
variable {th : Int32} {md wk lk av ap : Nat → Int32}
theorem soonBy11 (hav : ∀ x, x < 12 → av x = nI (ab th md x)) (hap : ∀ x y, x < 12 → y < 12 → hb th x = true → hb th y = true → ap (12 * x + y) = wk2 md wk x y) (hw : Bd wk 12 60) {li : Nat} (hli : li ≤ 60) {s v x p q : Nat} (hs : s < 4096) (hv : v < 12) (hx : x < 12) (tv : hb th v = true) {f : Nat → Int32} (h1 : f (12 * yS (ab th md) s v + v) = nI p) (h2 : f (12 * nS (ab th md) s v + v) = nI q) (hp : p ≤ 8640) (hq : q ≤ 8640) : ∃ r, f_X11_soonBy (nI x) (nI v) (nI s) av ap f (nI li) = some r ∧ (hb th x = true → r = nI (wN md wk x v + (li + mx p q))) := by
  unfold f_X11_soonBy
  have l1 := yS_lt (ab th md) v hs
  have l2 := nS_lt (ab th md) v hs
  have w1 : (12 : Int32) * nI x + nI v = nI (12 * x + v) := by
    rw [show (12 : Int32) * nI x = nI (12 * x) from pk_mul 12 x, nI_add]
  have w2 : (12 : Int32) * nI (yS (ab th md) s v) + nI v = nI (12 * yS (ab th md) s v + v) := by
    rw [show (12 : Int32) * nI (yS (ab th md) s v) = nI (12 * yS (ab th md) s v) from pk_mul 12 _, nI_add]
  have w3 : (12 : Int32) * nI (nS (ab th md) s v) + nI v = nI (12 * nS (ab th md) s v + v) := by
    rw [show (12 : Int32) * nI (nS (ab th md) s v) = nI (12 * nS (ab th md) s v) from pk_mul 12 _, nI_add]
  rw [w1, ri_nI (by omega) (by decide), ri_nI hv (by decide), hav v hv, and_nI, show s &&& ab th md v = yS (ab th md) s v from rfl, w2, ri_nI (by omega) (by decide), ri_nI hv (by decide), hav v hv, andn_nI hs, show s ^^^ (s &&& ab th md v) = nS (ab th md) s v from rfl, w3, ri_nI (by omega) (by decide), h1, h2, mx11 (by omega) (by omega), sb']
  refine ⟨_, rfl, fun tx => ?_⟩
  rw [hap x v hx hv tx tv, (wN_e hw x v).1, nI_add, nI_add, Nat.add_assoc]
def cc (k x : Nat) : Nat := (k + 11 - x) / 12
theorem soon11 (hT : Tree th md) (hw : Bd wk 12 60) {li : Nat} (hli : li ≤ 60) (hav : ∀ x, x < 12 → av x = nI (ab th md x)) (hap : ∀ x y, x < 12 → y < 12 → hb th x = true → hb th y = true → ap (12 * x + y) = wk2 md wk x y) (ko : Int32 → (Nat → Int32) → Option ((Nat → Int32) × (Nat → Int32) × (Nat → Int32))) (f0 : Nat → Int32) : ∃ f, (∀ s, s < 4096 → s &&& srN th lk = s → ∀ x, x < 12 → hb th x = true → f (12 * s + x) = nI (vS (ab th md) li (wN md wk) s x)) ∧ LX11_laySoon_6 (nI (srN th lk)) th (nI li) (av, ap) ko FU 0 f0 = ko (nI 4096) f := by
  have hl := sr_lt th lk
  refine its (S := Nat → Int32) 4096 (fun i f => ∀ s, s < i → s &&& srN th lk = s → ∀ x, x < 12 → hb th x = true → f (12 * s + x) = nI (vS (ab th md) li (wN md wk) s x)) (fun N i f => LX11_laySoon_6 (nI (srN th lk)) th (nI li) (av, ap) ko N (nI i) f) (fun f => ko (nI 4096) f) ?_ ?_ FU 0 f0 (by omega) (fu_lt (by omega)) (fun s hs => by omega)
  · intro N f _
    show LX11_laySoon_6 (nI (srN th lk)) th (nI li) (av, ap) ko (N + 1) (nI 4096) f = _
    rw [LX11_laySoon_6_s, if_pos (by decide)]
  · intro N i f hi hI
    have hp := pc_le i 12
    rw [LX11_laySoon_6_s, if_neg (show ¬ (4096 : Int32) ≤ nI i from nI_ge (a := i) (b := 4096) hi (by decide))]
    have w12 : ∀ x, (12 : Int32) * nI i + nI x = nI (12 * i + x) := fun x => by
      rw [show (12 : Int32) * nI i = nI (12 * i) from pk_mul 12 i, nI_add]
    -- the first row
    obtain ⟨f1, ⟨j1, j2⟩, e1⟩ := its (S := Nat → Int32) 12 (fun x g => (∀ y, y < x → g (12 * i + y) = (if 2 ≤ nI (pc i 12) then 268435456 else 0)) ∧ ∀ j, (j < 12 * i ∨ 12 * i + 12 ≤ j) → g j = f j) (fun M x g => LX11_laySoon_15 (nI i) (fun _ f10 => LX11_laySoon_55 (nI (srN th lk)) th (nI li) (av, ap) (nI i) (fun _ f21 => lt (nI i + 1 : Int32) fun x43 => LX11_laySoon_6 (nI (srN th lk)) th (nI li) (av, ap) ko N x43 f21) FU 0 f10) M (nI x) g) (fun g => LX11_laySoon_55 (nI (srN th lk)) th (nI li) (av, ap) (nI i) (fun _ f21 => lt (nI i + 1 : Int32) fun x43 => LX11_laySoon_6 (nI (srN th lk)) th (nI li) (av, ap) ko N x43 f21) FU 0 g) (by
      intro M g _
      show LX11_laySoon_15 (nI i) _ (M + 1) (nI 12) g = _
      rw [LX11_laySoon_15_s, if_pos (by decide)]) (by
      rintro M x g hx ⟨i1, i2⟩
      try dsimp only
      refine ⟨upd g (12 * i + x) (if 2 ≤ nI (pc i 12) then 268435456 else 0), ⟨fun y hy => ?_, fun j hj => ?_⟩, ?_⟩
      · by_cases q : y = x
        · subst q; rw [pk_us]
        · rw [pk_un (by omega)]; exact i1 y (by omega)
      · rw [pk_un (by omega)]; exact i2 j hj
      · rw [LX11_laySoon_15_s, if_neg (lt12 hx), many11 hi, sb', ib, w12, wi_nI (by omega) (by decide), lt_eq, nI_1 x]) FU 0 f (by omega) (fu_lt (by omega)) ⟨fun y hy => by omega, fun j _ => rfl⟩
    have e1' : LX11_laySoon_15 (nI i) (fun _ f10 => LX11_laySoon_55 (nI (srN th lk)) th (nI li) (av, ap) (nI i) (fun _ f21 => lt (nI i + 1 : Int32) fun x43 => LX11_laySoon_6 (nI (srN th lk)) th (nI li) (av, ap) ko N x43 f21) FU 0 f10) FU 0 f = LX11_laySoon_55 (nI (srN th lk)) th (nI li) (av, ap) (nI i) (fun _ f21 => lt (nI i + 1 : Int32) fun x43 => LX11_laySoon_6 (nI (srN th lk)) th (nI li) (av, ap) ko N x43 f21) FU 0 f1 := e1
    rw [e1']
    have old : ∀ s, s < i → ∀ x, x < 12 → f1 (12 * s + x) = f (12 * s + x) := fun s hs x hx => j2 _ (by omega)
    by_cases h2 : pc i 12 < 2
    · refine ⟨f1, fun s hs hsa x hx tx => ?_, ?_⟩
      · by_cases w : s = i
        · subst w
          rw [j1 x hx, if_neg (fun w => by have := (ge2 hp).mp w; omega), vS_eq]
          unfold stS
          rw [if_pos h2]; rfl
        · rw [old s (by omega) x hx]; exact hI s (by omega) hsa x hx tx
      · rw [fu_s, LX11_laySoon_55_s, if_neg (by decide), many11 hi, sb', if_pos ((le1 hp).mpr (by omega)), lt_eq, nI_1]
    · rw [if_pos ((ge2 hp).mpr (by omega))] at j1
      by_cases hsub : i &&& srN th lk = i
      · obtain ⟨v0, hv0, _, hP0⟩ := spl_ex hT hsub (by omega)
        have hwN : ∀ x v, wN md wk x v ≤ 660 := fun x v => (wN_e hw x v).2
        have bd : ∀ v, spl (ab th md) i v = true → vS (ab th md) li (wN md wk) (yS (ab th md) i v) v ≤ 8640 ∧ vS (ab th md) li (wN md wk) (nS (ab th md) i v) v ≤ 8640 := by
          intro v hP
          have h3 := vS_bd hT hwN hli _ (sub_tr (yS_sub (ab th md) i v) hsub) v
          have h4 := vS_bd hT hwN hli _ (sub_tr (nS_sub (ab th md) i v) hsub) v
          have h5 := pc_le (yS (ab th md) i v) 12
          have h6 := pc_le (nS (ab th md) i v) 12
          exact ⟨by omega, by omega⟩
        have bg : ∀ x v, spl (ab th md) i v = true → wN md wk x v + gC (ab th md) li (vS (ab th md) li (wN md wk)) i v ≤ 9360 := by
          intro x v hP
          obtain ⟨h3, h4⟩ := bd v hP
          have := mx_le h3 h4
          have := hwN x v
          unfold gC; omega
        obtain ⟨g, ⟨i1, i2⟩, e⟩ := its (S := Nat → Int32) 144 (fun k g => (∀ x, x < 12 → hb th x = true → g (12 * i + x) = nI (mn 268435456 (spl (ab th md) i) (fun v => wN md wk x v + gC (ab th md) li (vS (ab th md) li (wN md wk)) i v) (cc k x))) ∧ ∀ j, (j < 12 * i ∨ 12 * i + 12 ≤ j) → g j = f j) (fun M k g => LX11_laySoon_55 (nI (srN th lk)) th (nI li) (av, ap) (nI i) (fun _ f21 => lt (nI i + 1 : Int32) fun x43 => LX11_laySoon_6 (nI (srN th lk)) th (nI li) (av, ap) ko N x43 f21) M (nI k) g) (fun g => LX11_laySoon_6 (nI (srN th lk)) th (nI li) (av, ap) ko N (nI (i + 1)) g) (by
          intro M g _
          show LX11_laySoon_55 (nI (srN th lk)) th (nI li) (av, ap) (nI i) _ (M + 1) (nI 144) g = _
          rw [LX11_laySoon_55_s, if_pos (by decide), lt_eq, nI_1]) (by
          rintro M k g hk ⟨i1, i2⟩
          try dsimp only
          have e1 : nI k / 12 = nI (k / 12) := pk_div (d := 12) (by omega) (by decide) (by decide)
          have e2 : nI k - nI k / 12 * 12 = nI (k % 12) := pk_rem (d := 12) (by omega) (by decide) (by decide)
          have hv : k / 12 < 12 := by omega
          have hx : k % 12 < 12 := by omega
          rw [LX11_laySoon_55_s, if_neg (show ¬ (144 : Int32) ≤ nI k from nI_ge (a := k) (b := 144) hk (by decide)), many11 hi, sb', if_neg (fun w => by have := (le1 hp).mp w; omega), if_pos ((subN hi hl).mpr hsub), nz_ok (by decide), lt_eq, nz_ok (by decide), lt_eq, e2, e1]
          try dsimp only
          rw [parts11 hT hav hi hv, sb']
          have cn1 : ∀ x, x < 12 → x ≠ k % 12 → cc (k + 1) x = cc k x := fun x hx hne => by unfold cc; omega
          have cn2 : cc (k + 1) (k % 12) = k / 12 + 1 := by unfold cc; omega
          have cn3 : cc k (k % 12) = k / 12 := by unfold cc; omega
          generalize k / 12 = v at *
          generalize k % 12 = x at *
          by_cases hP : spl (ab th md) i v = true
          · obtain ⟨a, b⟩ := spl_lt hP
            obtain ⟨b1, b2⟩ := bd v hP
            have tv := spl_th hT hv hP
            have g1 : g (12 * yS (ab th md) i v + v) = nI (vS (ab th md) li (wN md wk) (yS (ab th md) i v) v) := by
              rw [i2 _ (by omega)]; exact hI _ a (sub_tr (yS_sub (ab th md) i v) hsub) v hv tv
            have g2 : g (12 * nS (ab th md) i v + v) = nI (vS (ab th md) li (wN md wk) (nS (ab th md) i v) v) := by
              rw [i2 _ (by omega)]; exact hI _ b (sub_tr (nS_sub (ab th md) i v) hsub) v hv tv
            obtain ⟨r, r1, r2⟩ := soonBy11 hav hap hw hli hi hv hx tv g1 g2 b1 b2
            rw [if_pos hP, if_neg one_ne, r1, sb', w12, ri_nI (by omega) (by decide), ri_nI (by omega) (by decide), ib, wi_nI (by omega) (by decide), sb', lt_eq, nI_1 k]
            refine ⟨_, ⟨fun y hy ty => ?_, fun j hj => ?_⟩, rfl⟩
            · by_cases q : y = x
              · subst q
                rw [pk_us, cn2, i1 y hy ty, cn3, r2 ty, mn]
                have b3 := bg y v hP
                have mD := mn_D 268435456 (spl (ab th md) i) (fun v => wN md wk y v + gC (ab th md) li (vS (ab th md) li (wN md wk)) i v) v
                have eg : wN md wk y v + (li + mx (vS (ab th md) li (wN md wk) (yS (ab th md) i v) v) (vS (ab th md) li (wN md wk) (nS (ab th md) i v) v)) = wN md wk y v + gC (ab th md) li (vS (ab th md) li (wN md wk)) i v := rfl
                rw [eg]
                by_cases z : wN md wk y v + gC (ab th md) li (vS (ab th md) li (wN md wk)) i v < mn 268435456 (spl (ab th md) i) (fun v => wN md wk y v + gC (ab th md) li (vS (ab th md) li (wN md wk)) i v) v
                · rw [if_neg (nI_ge z (by omega)), if_pos ⟨hP, z⟩]
                · rw [if_pos (nI_le (by omega) (by omega)), if_neg (fun w => z w.2)]
              · rw [pk_un (by omega), cn1 y hy q]; exact i1 y hy ty
            · rw [pk_un (by omega)]; exact i2 j hj
          · refine ⟨g, ⟨fun y hy ty => ?_, i2⟩, ?_⟩
            · by_cases q : y = x
              · subst q
                rw [i1 y hy ty, cn2, cn3, mn, if_neg (fun w => hP w.1)]
              · rw [cn1 y hy q]; exact i1 y hy ty
            · rw [if_neg hP, if_pos rfl, sb', lt_eq, nI_1 k]) FU 0 f1 (by omega) (fu_lt (by omega)) ⟨fun x hx tx => by
              have : cc 0 x = 0 := by unfold cc; omega
              rw [j1 x hx, this]; rfl, fun j hj => j2 j hj⟩
        refine ⟨g, fun s hs hsa x hx tx => ?_, e⟩
        by_cases w : s = i
        · subst w
          have b0 := bg x v0 hP0
          have c144 : cc 144 x = 12 := by unfold cc; omega
          rw [i1 x hx tx, c144, vS_eq]
          unfold stS
          rw [if_neg h2, mn_DD (D' := 1000000) hv0 hP0 (by omega) (by omega)]
        · rw [i2 _ (by omega)]; exact hI s (by omega) hsa x hx tx
      · refine ⟨f1, fun s hs hsa x hx tx => ?_, ?_⟩
        · by_cases w : s = i
          · subst w; exact absurd hsa hsub
          · rw [old s (by omega) x hx]; exact hI s (by omega) hsa x hx tx
        · rw [fu_s, LX11_laySoon_55_s, if_neg (by decide), many11 hi, sb', if_neg (fun w => by have := (le1 hp).mp w; omega), if_neg (fun w => hsub ((subN hi hl).mp w)), lt_eq, nI_1]
/-- all three tables -/
theorem layFew11 (hT : Tree th md) (av0 ap0 f0 : Nat → Int32) : ∃ av ap f : Nat → Int32, f_X11_layFew (nI (srN th lk)) md wk av0 ap0 f0 th = some (av, ap, f) ∧ (∀ x, x < 12 → av x = nI (ab th md x)) ∧ (∀ x y, x < 12 → y < 12 → hb th x = true → hb th y = true → ap (12 * x + y) = wk2 md wk x y) ∧ ∀ s, s < 4096 → s &&& srN th lk = s → f s = nI (vF (ab th md) s) := by
  unfold f_X11_layFew
  obtain ⟨av, ap, e, h1, h2⟩ := ways11 (wk := wk) hT av0 ap0
  obtain ⟨f, h3, h4⟩ := few11 (lk := lk) (ap := ap) hT h1 (fun _ f5 => some (av, ap, f5)) f0
  refine ⟨av, ap, f, ?_, h1, h2, h3⟩
  rw [e, sb']
  exact h4
theorem laySoon11 (hT : Tree th md) (hw : Bd wk 12 60) {li : Nat} (hli : li ≤ 60) (av0 ap0 f0 : Nat → Int32) : ∃ av ap f : Nat → Int32, f_X11_laySoon (nI (srN th lk)) md wk av0 ap0 f0 th (nI li) = some (av, ap, f) ∧ (∀ x, x < 12 → av x = nI (ab th md x)) ∧ (∀ x y, x < 12 → y < 12 → hb th x = true → hb th y = true → ap (12 * x + y) = wk2 md wk x y) ∧ ∀ s, s < 4096 → s &&& srN th lk = s → ∀ x, x < 12 → hb th x = true → f (12 * s + x) = nI (vS (ab th md) li (wN md wk) s x) := by
  unfold f_X11_laySoon
  obtain ⟨av, ap, e, h1, h2⟩ := ways11 (wk := wk) hT av0 ap0
  obtain ⟨f, h3, h4⟩ := soon11 (lk := lk) hT hw hli h1 h2 (fun _ f5 => some (av, ap, f5)) f0
  refine ⟨av, ap, f, ?_, h1, h2, h3⟩
  rw [e, sb']
  exact h4
end
