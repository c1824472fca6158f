/-! orders of lids told by hand -/
theorem shy10 (p : Int32) : f_X10_isShyness p = some (if (-1) ≤ p ∧ p ≤ 999 then 1 else 0) := by
  unfold f_X10_isShyness
  by_cases h1 : p < (-1)
  · rw [if_pos h1, if_neg (fun q => Int32.not_le.mpr h1 q.1)]
  · rw [if_neg h1]
    by_cases h2 : (999 : Int32) < p
    · rw [if_pos h2, if_neg (fun q => Int32.not_le.mpr h2 q.2)]
    · rw [if_neg h2, if_pos ⟨Int32.not_lt.mp h1, Int32.not_lt.mp h2⟩]
theorem k18 {p : Int32} (h : 1 ≤ p ∧ p ≤ 8) : ∃ k, 1 ≤ k ∧ k ≤ 8 ∧ p = nI k := by
  obtain ⟨k, hk, rfl⟩ := rg_of (p := p) (B := 8) (by decide) ⟨Int32.le_trans (by decide) h.1, h.2⟩
  exact ⟨k, (nI_leI (a := 1) (by decide) (by omega)).mp h.1, hk, rfl⟩
/-- promise 24 -/
theorem p_answers {th : Int32} {md td wk ov lk : Nat → Int32} (hT : Tree th md) (hd : ∀ v, v < 12 → hb th v = true → td v = md v) (hw : Bd wk 12 60) (ho : ∀ x, x < 12 → ov x = nI (ab th md x)) (p0 p1 p2 p3 : Int32) : ∃ r, f_X10_answers p0 p1 p2 p3 td wk th (nI (srN th lk)) ov = some r ∧ f_X11_answers p0 p1 p2 p3 md wk lk th = some r := by
  unfold f_X10_answers f_X11_answers
  rw [inI p2 1 8 (B := 1) (C := 8) rfl rfl, sb', inI p3 (-1) 999 (B := -1) (C := 999) rfl rfl, sb', shy10, sb']
  by_cases h1 : 1 ≤ p2 ∧ p2 ≤ 8
  · obtain ⟨k, hk1, hk, rfl⟩ := k18 h1
    rw [if_pos h1, if_neg one_ne, if_neg (Int32.not_lt.mpr h1.1), if_pos h1.2]
    rcases isrc (th := th) (lk := lk) p0 with ⟨x1, x2⟩ | ⟨v, hv, rfl, hs, hbv, x1, x2⟩
    · rw [x1, x2, sb', sb', if_pos rfl, if_pos rfl]
      exact ⟨_, rfl, rfl⟩
    · rw [x1, x2, sb', sb', if_neg one_ne, if_neg one_ne]
      rcases lids2 (th := th) p1 hk with ⟨y1, y2⟩ | ⟨y1, y2, y3⟩
      · rw [y1, y2, sb', sb', if_pos rfl, if_pos rfl]
        exact ⟨_, rfl, rfl⟩
      · rw [y1, y2, sb', sb', if_neg one_ne, if_neg one_ne]
        by_cases h2 : (-1) ≤ p3 ∧ p3 ≤ 999
        · simp only [if_pos h2, if_neg one_ne]
          obtain ⟨a, _, z1, z2⟩ := ans2 hT hd hw ho hv hbv p1 p3 h2.1 hk y3
          rw [z1, z2]
          exact ⟨_, rfl, rfl⟩
        · simp only [if_neg h2]
          exact ⟨_, rfl, rfl⟩
  · rw [if_neg h1, if_pos rfl]
    by_cases h2 : p2 < 1
    · rw [if_pos h2]; exact ⟨_, rfl, rfl⟩
    · rw [if_neg h2, if_neg (fun q => h1 ⟨Int32.not_lt.mp h2, q⟩)]; exact ⟨_, rfl, rfl⟩
def cn (f : Nat → Int32) (x : Int32) : Nat → Nat
  | 0 => 0
  | c + 1 => cn f x c + (if f c = x then 1 else 0)
def dS (f : Nat → Int32) : Nat → Nat
  | 0 => 0
  | c + 1 => dS f c + (if cn f (f c) c = 0 then 1 else 0)
def xS (f : Nat → Int32) (c : Nat) : Nat → Nat
  | 0 => 0
  | i + 1 => if xS f c i < cn f (f i) c then cn f (f i) c else xS f c i
def mS (f : Nat → Int32) : Nat → Nat
  | 0 => 0
  | c + 1 => if mS f c ≤ cn f (f c) (c + 1) then cn f (f c) (c + 1) else mS f c
theorem cn_le (f : Nat → Int32) (x : Int32) : ∀ c, cn f x c ≤ c
  | 0 => Nat.le_refl _
  | c + 1 => by
    have := cn_le f x c
    rw [cn]; split <;> omega
theorem cn_cong {f g : Nat → Int32} (x : Int32) : ∀ c, (∀ j, j < c → f j = g j) → cn f x c = cn g x c
  | 0, _ => rfl
  | c + 1, h => by rw [cn, cn, cn_cong x c (fun j hj => h j (by omega)), h c (by omega)]
theorem dS_cong {f g : Nat → Int32} : ∀ c, (∀ j, j < c → f j = g j) → dS f c = dS g c
  | 0, _ => rfl
  | c + 1, h => by rw [dS, dS, dS_cong c (fun j hj => h j (by omega)), h c (by omega), cn_cong (g c) c (fun j hj => h j (by omega))]
theorem mS_cong {f g : Nat → Int32} : ∀ c, (∀ j, j < c → f j = g j) → mS f c = mS g c
  | 0, _ => rfl
  | c + 1, h => by rw [mS, mS, mS_cong c (fun j hj => h j (by omega)), h c (by omega), cn_cong (g c) (c + 1) h]
theorem dS_le (f : Nat → Int32) : ∀ c, dS f c ≤ c
  | 0 => Nat.le_refl _
  | c + 1 => by
    have := dS_le f c
    rw [dS]; split <;> omega
theorem mS_le (f : Nat → Int32) : ∀ c, mS f c ≤ c
  | 0 => Nat.le_refl _
  | c + 1 => by
    have := mS_le f c
    have := cn_le f (f c) (c + 1)
    rw [mS]; split <;> omega
theorem xS_le (f : Nat → Int32) (c : Nat) : ∀ i, xS f c i ≤ c
  | 0 => Nat.zero_le _
  | i + 1 => by
    have := xS_le f c i
    have := cn_le f (f i) c
    rw [xS]; split <;> omega
theorem cn_mono (f : Nat → Int32) (x : Int32) (c : Nat) : cn f x c ≤ cn f x (c + 1) := by rw [cn]; omega
theorem mS_inv (f : Nat → Int32) : ∀ c, (∀ x, cn f x c ≤ mS f c) ∧ (mS f c = 0 ∨ ∃ i, i < c ∧ mS f c ≤ cn f (f i) c)
  | 0 => ⟨fun _ => Nat.le_refl _, Or.inl rfl⟩
  | c + 1 => by
    obtain ⟨h1, h2⟩ := mS_inv f c
    rw [mS]
    constructor
    · intro x
      have hx := h1 x
      by_cases q : f c = x
      · rw [q]; split <;> omega
      · have : cn f x (c + 1) = cn f x c := by rw [cn, if_neg q]; rfl
        rw [this]; split <;> omega
    · by_cases q : mS f c ≤ cn f (f c) (c + 1)
      · rw [if_pos q]; exact Or.inr ⟨c, by omega, Nat.le_refl _⟩
      · rw [if_neg q]
        rcases h2 with h | ⟨i, hi, h⟩
        · exact Or.inl h
        · exact Or.inr ⟨i, by omega, Nat.le_trans h (cn_mono f (f i) c)⟩
theorem xS_inv (f : Nat → Int32) (c : Nat) : ∀ i, (∀ j, j < i → cn f (f j) c ≤ xS f c i) ∧ (xS f c i = 0 ∨ ∃ j, j < i ∧ xS f c i = cn f (f j) c)
  | 0 => ⟨fun _ h => by omega, Or.inl rfl⟩
  | i + 1 => by
    obtain ⟨h1, h2⟩ := xS_inv f c i
    rw [xS]
    constructor
    · intro j hj
      by_cases q : j = i
      · subst q; split <;> omega
      · have := h1 j (by omega)
        split <;> omega
    · by_cases q : xS f c i < cn f (f i) c
      · rw [if_pos q]; exact Or.inr ⟨i, by omega, rfl⟩
      · rw [if_neg q]
        rcases h2 with h | ⟨j, hj, h⟩
        · exact Or.inl h
        · exact Or.inr ⟨j, by omega, h⟩
theorem xm (f : Nat → Int32) (c : Nat) : xS f c c = mS f c := by
  obtain ⟨a1, a2⟩ := mS_inv f c
  obtain ⟨b1, b2⟩ := xS_inv f c c
  apply Nat.le_antisymm
  · rcases b2 with h | ⟨j, hj, h⟩
    · omega
    · rw [h]; exact a1 _
  · rcases a2 with h | ⟨i, hi, h⟩
    · omega
    · exact Nat.le_trans h (b1 i hi)
theorem like10 {f : Nat → Int32} {p q : Nat} (hp : p < 12) (hq : q ≤ 12) : f_X3_likeAhead (nI p) (nI q) f = some (nI (cn f (f p) q)) := by
  unfold f_X3_likeAhead
  refine itv q (fun N i => LX3_likeAhead_5 (nI p) (nI q) f (fun x3 _ => some x3) N (nI (cn f (f p) i)) (nI i)) _ ?_ ?_ FU 0 (by omega) (fu_lt (by omega))
  · intro N
    show LX3_likeAhead_5 (nI p) (nI q) f _ (N + 1) (nI (cn f (f p) q)) (nI q) = _
    rw [LX3_likeAhead_5_s, if_pos (nI_le (Nat.le_refl _) (by omega))]
  · intro N i hi
    show LX3_likeAhead_5 (nI p) (nI q) f _ (N + 1) (nI (cn f (f p) i)) (nI i) = LX3_likeAhead_5 (nI p) (nI q) f _ N (nI (cn f (f p) (i + 1))) (nI (i + 1))
    rw [LX3_likeAhead_5_s, if_neg (nI_ge hi (by omega)), ri_nI (by omega) (by decide), ri_nI hp (by decide), ib, lt_eq, lt_eq, nI_1, cn]
    by_cases h : f i = f p
    · rw [if_pos h, if_pos h, nI_1]
    · rw [if_neg h, if_neg h, Int32.add_zero]; rfl
theorem kin10 {f : Nat → Int32} {c : Nat} (hc : c ≤ 12) (ko : Int32 → Int32 → Option (Int32 × (Nat → Int32))) : LX3_kindsIn_15 (nI c, f) ko FU 0 0 = ko (nI (dS f c)) (nI c) := by
  refine itv c (fun N i => LX3_kindsIn_15 (nI c, f) ko N (nI (dS f i)) (nI i)) _ ?_ ?_ FU 0 (by omega) (fu_lt (by omega))
  · intro N
    show LX3_kindsIn_15 (nI c, f) ko (N + 1) (nI (dS f c)) (nI c) = _
    rw [LX3_kindsIn_15_s, if_pos (nI_le (Nat.le_refl _) (by omega))]
  · intro N i hi
    show LX3_kindsIn_15 (nI c, f) ko (N + 1) (nI (dS f i)) (nI i) = LX3_kindsIn_15 (nI c, f) ko N (nI (dS f (i + 1))) (nI (i + 1))
    have hcn := cn_le f (f i) i
    rw [LX3_kindsIn_15_s, if_neg (nI_ge hi (by omega)), like10 (by omega) (by omega), sb', ib, lt_eq, lt_eq, nI_1, dS]
    dsimp only
    by_cases h : cn f (f i) i = 0
    · rw [if_pos h, h, if_pos (by decide), nI_1]
    · rw [if_neg h, if_neg (nI_ne0 (by omega) (by omega)), Int32.add_zero]; rfl
theorem lar10 {f : Nat → Int32} {c : Nat} (hc : c ≤ 12) (ko : Int32 → Int32 → Option (Int32 × (Nat → Int32))) : LX3_largestIn_15 (nI c, f) ko FU 0 0 = ko (nI (xS f c c)) (nI c) := by
  refine itv c (fun N i => LX3_largestIn_15 (nI c, f) ko N (nI (xS f c i)) (nI i)) _ ?_ ?_ FU 0 (by omega) (fu_lt (by omega))
  · intro N
    show LX3_largestIn_15 (nI c, f) ko (N + 1) (nI (xS f c c)) (nI c) = _
    rw [LX3_largestIn_15_s, if_pos (nI_le (Nat.le_refl _) (by omega))]
  · intro N i hi
    show LX3_largestIn_15 (nI c, f) ko (N + 1) (nI (xS f c i)) (nI i) = LX3_largestIn_15 (nI c, f) ko N (nI (xS f c (i + 1))) (nI (i + 1))
    have hcn := cn_le f (f i) c
    have hxs := xS_le f c i
    rw [LX3_largestIn_15_s, if_neg (nI_ge hi (by omega)), like10 (by omega) (by omega), sb', lt_eq, lt_eq, nI_1, xS]
    dsimp only
    by_cases h : xS f c i < cn f (f i) c
    · rw [if_pos h, if_pos (nI_lt h (by omega))]
    · rw [if_neg h, if_neg (nI_nlt (by omega) (by omega))]
theorem wipe11 (f : Nat → Int32) (ko : (Nat → Int32) → Option (Int32 × (Nat → Int32))) : ∃ g : Nat → Int32, (∀ a, a < 256 → g a = 0) ∧ LX11_row_58 (fun _ f12 => ko f12) FU 0 f = ko g := by
  refine its (S := Nat → Int32) 256 (fun i g => ∀ a, a < i → g a = 0) (fun N i g => LX11_row_58 (fun _ f12 => ko f12) N (nI i) g) (fun g => ko g) ?_ ?_ FU 0 f (by omega) (fu_lt (by omega)) (fun a h => by omega)
  · intro N g _
    show LX11_row_58 _ (N + 1) (nI 256) g = _
    rw [LX11_row_58_s, if_pos (by decide)]
  · intro N i g hi hI
    refine ⟨upd g i 0, fun a ha => ?_, ?_⟩
    · by_cases q : a = i
      · subst q; rw [pk_us]
      · rw [pk_un q]; exact hI a (by omega)
    · show LX11_row_58 _ (N + 1) (nI i) g = LX11_row_58 _ N (nI (i + 1)) (upd g i 0)
      rw [LX11_row_58_s, if_neg (show ¬ (256 : Int32) ≤ nI i from nI_ge (a := i) (b := 256) hi (by decide)), wi_nI hi (by decide), lt_eq, nI_1]
/-- promise 23 -/
theorem p_row {th : Int32} {md td wk ov lk : Nat → Int32} (hT : Tree th md) (hd : ∀ v, v < 12 → hb th v = true → td v = md v) (hw : Bd wk 12 60) (ho : ∀ x, x < 12 → ov x = nI (ab th md x)) (kn mk : Nat → Int32) (p0 p1 p2 p3 : Int32) : ∃ (r : Int32) (kn' mk' : Nat → Int32), f_X10_row p0 p1 p2 p3 td wk th (nI (srN th lk)) ov kn = some (r, kn') ∧ f_X11_row p0 p1 p2 p3 md wk lk mk th = some (r, mk') := by
  unfold f_X10_row f_X11_row
  rw [inI p1 1 8 (B := 1) (C := 8) rfl rfl, sb', inI p3 0 1 (B := 0) (C := 1) rfl rfl, sb', inI p2 (-1) 999 (B := -1) (C := 999) rfl rfl, sb', shy10, sb', part10, sb']
  by_cases h1 : 1 ≤ p1 ∧ p1 ≤ 8
  · obtain ⟨k, hk1, hk, rfl⟩ := k18 h1
    rw [if_pos h1, if_neg one_ne, if_neg (Int32.not_lt.mpr h1.1), if_pos h1.2]
    rcases lids2 (th := th) p0 hk with ⟨y1, y2⟩ | ⟨y1, y2, y3⟩
    · rw [y1, y2, sb', sb', if_pos rfl, if_pos rfl]
      exact ⟨_, _, _, rfl, rfl⟩
    · rw [y1, y2, sb', sb', if_neg one_ne, if_neg one_ne]
      by_cases h2 : 0 ≤ p3 ∧ p3 ≤ 1
      · simp only [if_pos h2, if_neg one_ne]
        by_cases h3 : (-1) ≤ p2 ∧ p2 ≤ 999
        · simp only [if_pos h3, if_neg one_ne]
          rw [src11]
          obtain ⟨g0, hg0, eg⟩ := wipe11 mk (fun f12 => (some (nI (srN th lk))).bind fun q17 => LX11_row_95 p0 (nI k) p2 md wk q17 (fun x22 x23 _ f25 => if p3 = 0 then some (x22, f25) else some (x23, f25)) FU 0 0 0 f12)
          rw [eg, sb']
          have hl := sr_lt th lk
          have key := itp (S := Int32 × (Nat → Int32)) (T := Int32 × Int32 × (Nat → Int32)) 12 (fun i s t => ∃ c, c ≤ i ∧ s.1 = nI c ∧ (∀ j, j < c → ∃ a, a < 256 ∧ s.2 j = nI a) ∧ t.1 = nI (dS s.2 c) ∧ t.2.1 = nI (mS s.2 c) ∧ ∀ a, a < 256 → t.2.2 a = nI (cn s.2 (nI a) c)) (fun N i s => LX3_answerAll_6 p0 (nI k) p2 td wk (nI (srN th lk)) ov (fun x4 _ f6 => some (x4, f6)) N s.1 (nI i) s.2) (fun N i t => LX11_row_95 p0 (nI k) p2 md wk (nI (srN th lk)) (fun x22 x23 _ f25 => if p3 = 0 then some (x22, f25) else some (x23, f25)) N t.1 t.2.1 (nI i) t.2.2) (fun s => some s) (fun t => if p3 = 0 then some (t.1, t.2.2) else some (t.2.1, t.2.2)) (by
            intro N s t _
            constructor
            · show LX3_answerAll_6 p0 (nI k) p2 td wk (nI (srN th lk)) ov _ (N + 1) s.1 (nI 12) s.2 = _
              rw [LX3_answerAll_6_s, if_pos (by decide)]
            · show LX11_row_95 p0 (nI k) p2 md wk (nI (srN th lk)) _ (N + 1) t.1 t.2.1 (nI 12) t.2.2 = _
              rw [LX11_row_95_s, if_pos (by decide)]) (by
            rintro N i ⟨x, f⟩ ⟨y, z, h⟩ hi ⟨c, hc, e1, e2, e3, e4, e5⟩
            dsimp only at e1 e2 e3 e4 e5 ⊢
            subst e1 e3 e4
            by_cases hs : (srN th lk).testBit i = true
            · obtain ⟨a, ha, z1, z2⟩ := ans2 hT hd hw ho hi (sr_bit hs).2.1 p0 p2 h3.1 hk y3
              have hcn := cn_le f (nI a) c
              have hms := mS_le f c
              have cg : ∀ j, j < c → upd f c (nI a) j = f j := fun j hj => pk_un (by omega)
              have n1 : cn (upd f c (nI a)) (nI a) (c + 1) = cn f (nI a) c + 1 := by
                rw [cn, cn_cong (nI a) c cg, pk_us, if_pos rfl]
              refine ⟨(nI (c + 1), upd f c (nI a)), (nI (dS (upd f c (nI a)) (c + 1)), nI (mS (upd f c (nI a)) (c + 1)), upd h a (nI (cn f (nI a) c + 1))), ⟨c + 1, by omega, rfl, fun j hj => ?_, rfl, rfl, fun b hb => ?_⟩, ?_, ?_⟩
              · dsimp only
                by_cases q : j = c
                · subst q; exact ⟨a, ha, pk_us⟩
                · rw [pk_un q]; exact e2 j (by omega)
              · dsimp only
                by_cases q : b = a
                · subst q; rw [pk_us, n1]
                · rw [pk_un q, e5 b hb, cn, cn_cong (nI b) c cg, pk_us, if_neg (fun w => q ((nI_eq (by omega) (by omega)).mp w).symm)]; rfl
              · dsimp only
                rw [LX3_answerAll_6_s, if_neg (lt12 hi), has10, sb', hb_nI (by omega) (by omega), if_pos hs, if_neg one_ne, z1, sb', wi_nI (by omega) (by decide), lt_eq, sb', lt_eq, nI_1, nI_1]
              · dsimp only
                rw [LX11_row_95_s, if_neg (lt12 hi), has11, sb', hb_nI (by omega) (by omega), if_pos hs, if_neg one_ne, z2, sb', ri_nI ha (by decide), ib, lt_eq, ri_nI ha (by decide), wi_nI ha (by decide), ri_nI ha (by decide), e5 a ha, pk_us, nI_1]
                unfold f_X11_greater
                have d1 : nI (dS f c) + (if nI (cn f (nI a) c) = 0 then 1 else 0) = nI (dS (upd f c (nI a)) (c + 1)) := by
                  rw [dS, dS_cong c cg, pk_us, cn_cong (nI a) c cg]
                  by_cases q : cn f (nI a) c = 0
                  · rw [if_pos q, q, if_pos (by decide), nI_1]
                  · rw [if_neg q, if_neg (nI_ne0 (by omega) (by omega)), Int32.add_zero]; rfl
                have m1 : (if nI (mS f c) ≤ nI (cn f (nI a) c + 1) then some (nI (cn f (nI a) c + 1)) else some (nI (mS f c))) = some (nI (mS (upd f c (nI a)) (c + 1))) := by
                  rw [mS, mS_cong c cg, pk_us, n1]
                  by_cases q : mS f c ≤ cn f (nI a) c + 1
                  · rw [if_pos q, if_pos (nI_le q (by omega))]
                  · rw [if_neg q, if_neg (nI_ge (by omega) (by omega))]
                rw [m1, sb', sb', lt_eq, nI_1, d1]
            · refine ⟨(nI c, f), (nI (dS f c), nI (mS f c), h), ⟨c, by omega, rfl, e2, rfl, rfl, e5⟩, ?_, ?_⟩
              · dsimp only
                rw [LX3_answerAll_6_s, if_neg (lt12 hi), has10, sb', hb_nI (by omega) (by omega), if_neg hs, if_pos rfl, sb', lt_eq, nI_1]
              · dsimp only
                rw [LX11_row_95_s, if_neg (lt12 hi), has11, sb', hb_nI (by omega) (by omega), if_neg hs, if_pos rfl, sb', lt_eq, nI_1]) FU 0 (0, kn) (0, 0, g0) (by omega) (fu_lt (by omega)) ⟨0, by omega, rfl, fun j hj => by omega, rfl, rfl, fun a ha => hg0 a ha⟩
          obtain ⟨⟨x, f⟩, ⟨y, z, h⟩, ⟨c, hc, e1, e2, e3, e4, e5⟩, k1, k2⟩ := key
          dsimp only at e1 e2 e3 e4 e5 k1 k2
          subst e1 e3 e4
          have k1' : f_X3_answerAll p0 (nI k) p2 td wk (nI (srN th lk)) ov kn = some (nI c, f) := k1
          unfold f_X3_kindsIn f_X3_largestIn
          rw [k1', sb', sb', kin10 hc, lar10 hc, xm]
          have k2' : LX11_row_95 p0 (nI k) p2 md wk (nI (srN th lk)) (fun x22 x23 _ f25 => if p3 = 0 then some (x22, f25) else some (x23, f25)) FU 0 0 0 g0 = _ := k2
          rw [k2']
          by_cases h5 : p3 = 0
          · rw [if_pos h5, if_pos h5]; exact ⟨_, _, _, rfl, rfl⟩
          · rw [if_neg h5, if_neg h5]; exact ⟨_, _, _, rfl, rfl⟩
        · simp only [if_neg h3]
          exact ⟨_, _, _, rfl, rfl⟩
      · simp only [if_neg h2]
        exact ⟨_, _, _, rfl, rfl⟩
  · rw [if_neg h1, if_pos rfl]
    by_cases h2 : p1 < 1
    · rw [if_pos h2]; exact ⟨_, _, _, rfl, rfl⟩
    · rw [if_neg h2, if_neg (fun q => h1 ⟨Int32.not_lt.mp h2, q⟩)]; exact ⟨_, _, _, rfl, rfl⟩
