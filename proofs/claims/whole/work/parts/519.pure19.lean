/-! the tables of the reference -/
theorem andn_nI {s a : Nat} (hs : s < 4096) : nI s &&& (nI a ^^^ (-1)) = nI (s ^^^ (s &&& a)) := by
  rw [m1n, xor_nI, and_nI]
  congr 1
  apply Nat.eq_of_testBit_eq
  intro i
  rw [Nat.testBit_and, Nat.testBit_xor, tb32, Nat.testBit_xor, Nat.testBit_and]
  by_cases hi : i < 32
  · simp only [hi, decide_true]
    cases s.testBit i <;> cases a.testBit i <;> rfl
  · rw [tb_hi (n := 12) hs (by omega)]; rfl
theorem yS_lt (A : Nat → Nat) {s : Nat} (v : Nat) (hs : s < 4096) : yS A s v < 4096 := by
  have : yS A s v ≤ s := by rw [← yS_sub]; exact Nat.and_le_right
  omega
theorem nS_lt (A : Nat → Nat) {s : Nat} (v : Nat) (hs : s < 4096) : nS A s v < 4096 := by
  have : nS A s v ≤ s := by rw [← nS_sub]; exact Nat.and_le_right
  omega
theorem nS_z {A : Nat → Nat} {s v : Nat} (h : yS A s v = s) : nS A s v = 0 := by
  unfold nS
  unfold yS at h
  rw [h, Nat.xor_self]
def lS (lk : Nat → Int32) (s : Nat) : Nat → Nat
  | 0 => 0
  | n + 1 => lS lk s n + (if s.testBit n then vl lk n else 0)
theorem vl_e {f : Nat → Int32} {n B i : Nat} (h : Bd f n B) (hB : B < 2 ^ 31) (hi : i < n) : f i = nI (vl f i) ∧ vl f i ≤ B := by
  obtain ⟨k, h1, h2⟩ := h i hi
  unfold vl
  rw [h2, nI_clamp (by omega)]
  exact ⟨rfl, h1⟩
theorem lS_e {lk : Nat → Int32} (h : Bd lk 12 99) (s : Nat) : ∀ n, n ≤ 12 → smS lk s n = nI (lS lk s n) ∧ lS lk s n ≤ 99 * n
  | 0, _ => ⟨rfl, by rw [lS]; omega⟩
  | n + 1, hn => by
    obtain ⟨h1, h2⟩ := lS_e h s n (by omega)
    obtain ⟨h3, h4⟩ := vl_e h (by decide) (show n < 12 by omega)
    rw [smS, lS, h1]
    by_cases q : s.testBit n = true
    · rw [if_pos q, if_pos q, h3, nI_add]; exact ⟨rfl, by omega⟩
    · rw [if_neg q, if_neg q, Int32.add_zero]; exact ⟨rfl, by omega⟩
theorem lik11 {lk : Nat → Int32} {s : Nat} (hs : s < 4096) : f_X11_likelyOf (nI s) lk = some (smS lk s 12) := by
  unfold f_X11_likelyOf
  refine itv 12 (fun N i => LX11_likelyOf_4 (nI s) lk (fun x3 _ => some x3) N (smS lk s i) (nI i)) _ ?_ ?_ FU 0 (by omega) (fu_lt (by omega))
  · intro N
    show LX11_likelyOf_4 (nI s) lk _ (N + 1) (smS lk s 12) (nI 12) = _
    rw [LX11_likelyOf_4_s, if_pos (by decide)]
  · intro N i hi
    show LX11_likelyOf_4 (nI s) lk _ (N + 1) (smS lk s i) (nI i) = LX11_likelyOf_4 (nI s) lk _ N (smS lk s (i + 1)) (nI (i + 1))
    rw [LX11_likelyOf_4_s, if_neg (lt12 hi), has11, sb', hb_nI (by omega) (by omega), smS]
    by_cases h : s.testBit i = true
    · simp only [if_pos h, if_neg one_ne]
      rw [ri_nI hi (by decide), sb', lt_eq, lt_eq, nI_1]
    · simp only [if_neg h]
      rw [if_pos trivial, sb', lt_eq, lt_eq, nI_1]
theorem lik10 {lk : Nat → Int32} {s : Nat} (hs : s < 4096) : f_X9_likelyOf (nI s) lk = some (smS lk s 12) := by
  unfold f_X9_likelyOf
  refine itv 12 (fun N i => LX9_likelyOf_4 (nI s) lk (fun x3 _ => some x3) N (smS lk s i) (nI i)) _ ?_ ?_ FU 0 (by omega) (fu_lt (by omega))
  · intro N
    show LX9_likelyOf_4 (nI s) lk _ (N + 1) (smS lk s 12) (nI 12) = _
    rw [LX9_likelyOf_4_s, if_pos (by decide)]
  · intro N i hi
    show LX9_likelyOf_4 (nI s) lk _ (N + 1) (smS lk s i) (nI i) = LX9_likelyOf_4 (nI s) lk _ N (smS lk s (i + 1)) (nI (i + 1))
    rw [LX9_likelyOf_4_s, if_neg (lt12 hi), has10, sb', hb_nI (by omega) (by omega), smS]
    by_cases h : s.testBit i = true
    · simp only [if_pos h, if_neg one_ne]
      rw [ri_nI hi (by decide), sb', lt_eq, lt_eq, nI_1]
    · simp only [if_neg h]
      rw [if_pos trivial, sb', lt_eq, lt_eq, nI_1]
def lkS (lk : Nat → Int32) (s : Nat) : Nat := lS lk s 12
def wN (md wk : Nat → Int32) (x v : Nat) : Nat := (wk2 md wk x v).toNatClampNeg
theorem wN_e {md wk : Nat → Int32} (hw : Bd wk 12 60) (x v : Nat) : wk2 md wk x v = nI (wN md wk x v) ∧ wN md wk x v ≤ 660 := by
  obtain ⟨k, h1, h2⟩ := wk2_bd (md := md) hw x v
  unfold wN
  rw [h2, nI_clamp (by omega)]
  exact ⟨rfl, h1⟩
section
variable {th : Int32} {md wk lk av ap : Nat → Int32}
theorem parts11 (hT : Tree th md) (hav : ∀ x, x < 12 → av x = nI (ab th md x)) {s v : Nat} (hs : s < 4096) (hv : v < 12) : f_X11_parts (nI v) (nI s) av th = some (if spl (ab th md) s v = true then 1 else 0) := by
  unfold f_X11_parts
  rw [has11, sb']
  by_cases h : hb th v = true
  · rw [if_pos h, if_neg one_ne, ri_nI hv (by decide), hav v hv, and_nI, ri_nI hv (by decide), hav v hv, andn_nI hs]
    have l1 := yS_lt (ab th md) v hs
    have l2 := nS_lt (ab th md) v hs
    have e1 : nI (s &&& ab th md v) = nI (yS (ab th md) s v) := rfl
    have e2 : nI (s ^^^ (s &&& ab th md v)) = nI (nS (ab th md) s v) := rfl
    rw [e1, e2]
    by_cases q1 : yS (ab th md) s v = 0
    · rw [q1, if_pos (by decide), if_neg (fun w => (spl_i.mp w).1 q1)]
    · rw [if_neg (nI_ne0 (by omega) (by omega))]
      by_cases q2 : yS (ab th md) s v = s
      · rw [nS_z q2, if_pos (by decide), if_neg (fun w => (spl_i.mp w).2 q2)]
      · have := nS_n0 _ s v q2
        rw [if_neg (nI_ne0 (by omega) (by omega)), if_pos (spl_i.mpr ⟨q1, q2⟩)]
  · rw [if_neg h, if_pos rfl, if_neg (fun w => h (spl_th hT hv w))]
theorem fewBy11 (hav : ∀ x, x < 12 → av x = nI (ab th md x)) {s v p q : Nat} (hs : s < 4096) (hv : v < 12) {f : Nat → Int32} (h1 : f (yS (ab th md) s v) = nI p) (h2 : f (nS (ab th md) s v) = nI q) (hp : p < 2 ^ 31) (hq : q < 2 ^ 31) : f_X11_fewBy (nI v) (nI s) av f = some (nI (1 + mx p q)) := by
  unfold f_X11_fewBy
  have l1 := yS_lt (ab th md) v hs
  have l2 := nS_lt (ab th md) v hs
  rw [ri_nI hv (by decide), hav v hv, and_nI, show s &&& ab th md v = yS (ab th md) s v from rfl, ri_nI l1 (by decide), ri_nI hv (by decide), hav v hv, andn_nI hs, show s ^^^ (s &&& ab th md v) = nS (ab th md) s v from rfl, ri_nI l2 (by decide), h1, h2, mx11 hp hq, sb', show (1 : Int32) = nI 1 from rfl, nI_add]
theorem ge2 {n : Nat} (h : n ≤ 12) : (2 : Int32) ≤ nI n ↔ 2 ≤ n := nI_leI (a := 2) (by decide) (by omega)
theorem le1 {n : Nat} (h : n ≤ 12) : nI n ≤ (1 : Int32) ↔ n ≤ 1 := nI_leI (b := 1) (by omega) (by decide)
theorem few11 (hT : Tree th md) (hav : ∀ x, x < 12 → av x = nI (ab th md x)) (ko : Int32 → (Nat → Int32) → Option ((Nat → Int32) × (Nat → Int32) × (Nat → Int32))) (f0 : Nat → Int32) : ∃ f, (∀ s, s < 4096 → s &&& srN th lk = s → f s = nI (vF (ab th md) s)) ∧ LX11_layFew_6 (nI (srN th lk)) th (av, ap) ko FU 0 f0 = ko (nI 4096) f := by
  have hl := sr_lt th lk
  refine its (S := Nat → Int32) 4096 (fun i f => ∀ s, s < i → s &&& srN th lk = s → f s = nI (vF (ab th md) s)) (fun N i f => LX11_layFew_6 (nI (srN th lk)) th (av, ap) ko N (nI i) f) (fun f => ko (nI 4096) f) ?_ ?_ FU 0 f0 (by omega) (fu_lt (by omega)) (fun s hs => by omega)
  · intro N f _
    show LX11_layFew_6 (nI (srN th lk)) th (av, ap) ko (N + 1) (nI 4096) f = _
    rw [LX11_layFew_6_s, if_pos (by decide)]
  · intro N i f hi hI
    have hp := pc_le i 12
    show ∃ f', _ ∧ LX11_layFew_6 (nI (srN th lk)) th (av, ap) ko (N + 1) (nI i) f = LX11_layFew_6 (nI (srN th lk)) th (av, ap) ko N (nI (i + 1)) f'
    rw [LX11_layFew_6_s, if_neg (show ¬ (4096 : Int32) ≤ nI i from nI_ge (a := i) (b := 4096) hi (by decide)), many11 hi, sb', ib, wi_nI hi (by decide)]
    by_cases h2 : pc i 12 < 2
    · refine ⟨upd f i 0, fun s hs hsa => ?_, ?_⟩
      · by_cases w : s = i
        · subst w
          rw [pk_us, vF_eq]
          unfold stF
          rw [if_pos h2]; rfl
        · rw [pk_un w]; exact hI s (by omega) hsa
      · rw [if_neg (fun w => by have := (ge2 hp).mp w; omega), fu_s, LX11_layFew_36_s, if_neg (by decide), many11 hi, sb', if_pos ((le1 hp).mpr (by omega)), lt_eq, nI_1]
    · rw [if_pos ((ge2 hp).mpr (by omega))]
      by_cases hsub : i &&& srN th lk = i
      · obtain ⟨v0, hv0, _, hP0⟩ := spl_ex hT hsub (by omega)
        have bd : ∀ v, spl (ab th md) i v = true → vF (ab th md) (yS (ab th md) i v) ≤ 12 ∧ vF (ab th md) (nS (ab th md) i v) ≤ 12 := by
          intro v hP
          have h3 := vF_bd hT _ (sub_tr (yS_sub (ab th md) i v) hsub)
          have h4 := vF_bd hT _ (sub_tr (nS_sub (ab th md) i v) hsub)
          have h5 := pc_le (yS (ab th md) i v) 12
          have h6 := pc_le (nS (ab th md) i v) 12
          exact ⟨by omega, by omega⟩
        have bg : ∀ v, spl (ab th md) i v = true → gF (ab th md) (vF (ab th md)) i v ≤ 13 := by
          intro v hP
          obtain ⟨h3, h4⟩ := bd v hP
          have := mx_le h3 h4
          unfold gF; omega
        obtain ⟨g, ⟨i1, i2⟩, e⟩ := its (S := Nat → Int32) 12 (fun j g => g i = nI (mn 268435456 (spl (ab th md) i) (gF (ab th md) (vF (ab th md)) i) j) ∧ ∀ t, t ≠ i → g t = f t) (fun M j g => LX11_layFew_36 (nI (srN th lk)) th (av, ap) (nI i) (fun x13 f14 => lt (nI i + 1 : Int32) fun x33 => LX11_layFew_6 (nI (srN th lk)) th (av, ap) ko N x33 f14) M (nI j) g) (fun g => LX11_layFew_6 (nI (srN th lk)) th (av, ap) ko N (nI (i + 1)) g) (by
          intro M g _
          show LX11_layFew_36 (nI (srN th lk)) th (av, ap) (nI i) _ (M + 1) (nI 12) g = _
          rw [LX11_layFew_36_s, if_pos (by decide), lt_eq, nI_1]) (by
          rintro M j g hj ⟨i1, i2⟩
          show ∃ g', _ ∧ LX11_layFew_36 (nI (srN th lk)) th (av, ap) (nI i) _ (M + 1) (nI j) g = LX11_layFew_36 (nI (srN th lk)) th (av, ap) (nI i) _ M (nI (j + 1)) g'
          have mD := mn_D 268435456 (spl (ab th md) i) (gF (ab th md) (vF (ab th md)) i) j
          rw [LX11_layFew_36_s, if_neg (lt12 hj), many11 hi, sb', if_neg (fun w => by have := (le1 hp).mp w; omega), if_pos ((subN hi hl).mpr hsub)]
          dsimp only
          rw [parts11 hT hav hi hj, sb']
          by_cases hP : spl (ab th md) i j = true
          · obtain ⟨a, b⟩ := spl_lt hP
            obtain ⟨b1, b2⟩ := bd j hP
            have g1 : g (yS (ab th md) i j) = nI (vF (ab th md) (yS (ab th md) i j)) := by
              rw [i2 _ (by omega)]; exact hI _ a (sub_tr (yS_sub (ab th md) i j) hsub)
            have g2 : g (nS (ab th md) i j) = nI (vF (ab th md) (nS (ab th md) i j)) := by
              rw [i2 _ (by omega)]; exact hI _ b (sub_tr (nS_sub (ab th md) i j) hsub)
            have b3 := bg j hP
            rw [if_pos hP, if_neg one_ne, fewBy11 hav hi hj g1 g2 (by omega) (by omega), show 1 + mx (vF (ab th md) (yS (ab th md) i j)) (vF (ab th md) (nS (ab th md) i j)) = gF (ab th md) (vF (ab th md)) i j from rfl, sb', ri_nI hi (by decide), i1]
            refine ⟨upd g i (nI (mn 268435456 (spl (ab th md) i) (gF (ab th md) (vF (ab th md)) i) (j + 1))), ⟨pk_us, fun t ht => by rw [pk_un ht]; exact i2 t ht⟩, ?_⟩
            rw [mn]
            by_cases q : gF (ab th md) (vF (ab th md)) i j < mn 268435456 (spl (ab th md) i) (gF (ab th md) (vF (ab th md)) i) j
            · rw [if_neg (nI_ge q (by omega)), if_pos ⟨hP, q⟩, sb', sb', wi_nI hi (by decide), sb', lt_eq, nI_1 j]
            · rw [if_pos (nI_le (by omega) (by omega)), if_neg (fun w => q w.2), ri_nI hi (by decide), i1, sb', wi_nI hi (by decide), sb', lt_eq, nI_1 j]
          · refine ⟨g, ⟨?_, i2⟩, ?_⟩
            · rw [i1, mn, if_neg (fun w => hP w.1)]
            · rw [if_neg hP, if_pos rfl, sb', lt_eq, nI_1 j]) FU 0 (upd f i 268435456) (by omega) (fu_lt (by omega)) ⟨pk_us, fun t ht => pk_un ht⟩
        refine ⟨g, fun s hs hsa => ?_, e⟩
        by_cases w : s = i
        · subst w
          have := bg v0 hP0
          rw [i1, vF_eq]
          unfold stF
          rw [if_neg h2, mn_DD (D' := 1000000) hv0 hP0 (by omega) (by omega)]
        · rw [i2 s w]; exact hI s (by omega) hsa
      · refine ⟨upd f i 268435456, fun s hs hsa => ?_, ?_⟩
        · by_cases w : s = i
          · subst w; exact absurd hsa hsub
          · rw [pk_un w]; exact hI s (by omega) hsa
        · rw [fu_s, LX11_layFew_36_s, if_neg (by decide), many11 hi, sb', if_neg (fun w => by have := (le1 hp).mp w; omega), if_neg (fun w => hsub ((subN hi hl).mp w)), lt_eq, nI_1]
theorem mean11 (hT : Tree th md) (hlk : Bd lk 12 99) (hav : ∀ x, x < 12 → av x = nI (ab th md x)) (ko : Int32 → (Nat → Int32) → Option (Int32 × (Nat → Int32) × (Nat → Int32) × (Nat → Int32))) (f0 : Nat → Int32) : ∃ f, (∀ s, s < 4096 → s &&& srN th lk = s → f s = nI (vM (ab th md) (lkS lk) s)) ∧ LX11_mean_28 lk th (nI (srN th lk)) (av, ap) ko FU 0 f0 = ko (nI 4096) f := by
  have hl := sr_lt th lk
  have hlS : ∀ s, lkS lk s ≤ 1188 := fun s => by
    have := (lS_e hlk s 12 (Nat.le_refl _)).2
    unfold lkS; omega
  refine its (S := Nat → Int32) 4096 (fun i f => ∀ s, s < i → s &&& srN th lk = s → f s = nI (vM (ab th md) (lkS lk) s)) (fun N i f => LX11_mean_28 lk th (nI (srN th lk)) (av, ap) ko N (nI i) f) (fun f => ko (nI 4096) f) ?_ ?_ FU 0 f0 (by omega) (fu_lt (by omega)) (fun s hs => by omega)
  · intro N f _
    show LX11_mean_28 lk th (nI (srN th lk)) (av, ap) ko (N + 1) (nI 4096) f = _
    rw [LX11_mean_28_s, if_pos (by decide)]
  · intro N i f hi hI
    have hp := pc_le i 12
    show ∃ f', _ ∧ LX11_mean_28 lk th (nI (srN th lk)) (av, ap) ko (N + 1) (nI i) f = LX11_mean_28 lk th (nI (srN th lk)) (av, ap) ko N (nI (i + 1)) f'
    rw [LX11_mean_28_s, if_neg (show ¬ (4096 : Int32) ≤ nI i from nI_ge (a := i) (b := 4096) hi (by decide)), many11 hi, sb', ib, wi_nI hi (by decide)]
    by_cases h2 : pc i 12 < 2
    · refine ⟨upd f i 0, fun s hs hsa => ?_, ?_⟩
      · by_cases w : s = i
        · subst w
          rw [pk_us, vM_eq]
          unfold stM
          rw [if_pos h2]; rfl
        · rw [pk_un w]; exact hI s (by omega) hsa
      · rw [if_neg (fun w => by have := (ge2 hp).mp w; omega), fu_s, LX11_mean_59_s, if_neg (by decide), many11 hi, sb', if_pos ((le1 hp).mpr (by omega)), lt_eq, nI_1]
    · rw [if_pos ((ge2 hp).mpr (by omega))]
      by_cases hsub : i &&& srN th lk = i
      · obtain ⟨v0, hv0, _, hP0⟩ := spl_ex hT hsub (by omega)
        have bd : ∀ v, spl (ab th md) i v = true → vM (ab th md) (lkS lk) (yS (ab th md) i v) ≤ 27324 ∧ vM (ab th md) (lkS lk) (nS (ab th md) i v) ≤ 27324 := by
          intro v hP
          have h3 := vM_bd hT hlS _ (sub_tr (yS_sub (ab th md) i v) hsub)
          have h4 := vM_bd hT hlS _ (sub_tr (nS_sub (ab th md) i v) hsub)
          have h5 := pc_le (yS (ab th md) i v) 12
          have h6 := pc_le (nS (ab th md) i v) 12
          exact ⟨by omega, by omega⟩
        have bg : ∀ v, spl (ab th md) i v = true → gM (ab th md) (vM (ab th md) (lkS lk)) i v + lkS lk i ≤ 60000 := by
          intro v hP
          obtain ⟨h3, h4⟩ := bd v hP
          have := hlS i
          unfold gM; omega
        obtain ⟨g, ⟨i1, i2⟩, e⟩ := its (S := Nat → Int32) 12 (fun j g => g i = nI (mn 268435456 (spl (ab th md) i) (fun v => gM (ab th md) (vM (ab th md) (lkS lk)) i v + lkS lk i) j) ∧ ∀ t, t ≠ i → g t = f t) (fun M j g => LX11_mean_59 lk th (nI (srN th lk)) (av, ap) (nI i) (fun x17 f18 => lt (nI i + 1 : Int32) fun x45 => LX11_mean_28 lk th (nI (srN th lk)) (av, ap) ko N x45 f18) M (nI j) g) (fun g => LX11_mean_28 lk th (nI (srN th lk)) (av, ap) ko N (nI (i + 1)) g) (by
          intro M g _
          show LX11_mean_59 lk th (nI (srN th lk)) (av, ap) (nI i) _ (M + 1) (nI 12) g = _
          rw [LX11_mean_59_s, if_pos (by decide), lt_eq, nI_1]) (by
          rintro M j g hj ⟨i1, i2⟩
          show ∃ g', _ ∧ LX11_mean_59 lk th (nI (srN th lk)) (av, ap) (nI i) _ (M + 1) (nI j) g = LX11_mean_59 lk th (nI (srN th lk)) (av, ap) (nI i) _ M (nI (j + 1)) g'
          have mD := mn_D 268435456 (spl (ab th md) i) (fun v => gM (ab th md) (vM (ab th md) (lkS lk)) i v + lkS lk i) j
          have l1 := yS_lt (ab th md) j hi
          have l2 := nS_lt (ab th md) j hi
          rw [LX11_mean_59_s, if_neg (lt12 hj), many11 hi, sb', if_neg (fun w => by have := (le1 hp).mp w; omega), if_pos ((subN hi hl).mpr hsub)]
          dsimp only
          rw [parts11 hT hav hi hj, sb']
          by_cases hP : spl (ab th md) i j = true
          · obtain ⟨a, b⟩ := spl_lt hP
            obtain ⟨b1, b2⟩ := bd j hP
            have g1 : g (yS (ab th md) i j) = nI (vM (ab th md) (lkS lk) (yS (ab th md) i j)) := by
              rw [i2 _ (by omega)]; exact hI _ a (sub_tr (yS_sub (ab th md) i j) hsub)
            have g2 : g (nS (ab th md) i j) = nI (vM (ab th md) (lkS lk) (nS (ab th md) i j)) := by
              rw [i2 _ (by omega)]; exact hI _ b (sub_tr (nS_sub (ab th md) i j) hsub)
            have b3 := bg j hP
            have es : nI (lkS lk i) + nI (vM (ab th md) (lkS lk) (yS (ab th md) i j)) + nI (vM (ab th md) (lkS lk) (nS (ab th md) i j)) = nI (gM (ab th md) (vM (ab th md) (lkS lk)) i j + lkS lk i) := by
              rw [nI_add, nI_add]
              congr 1
              unfold gM; omega
            rw [if_pos hP, if_neg one_ne, lik11 hi, (lS_e hlk i 12 (Nat.le_refl _)).1, show lS lk i 12 = lkS lk i from rfl, sb', ri_nI hj (by decide), hav j hj, and_nI, show i &&& ab th md j = yS (ab th md) i j from rfl, ri_nI l1 (by decide), ri_nI hj (by decide), hav j hj, andn_nI hi, show i ^^^ (i &&& ab th md j) = nS (ab th md) i j from rfl, ri_nI l2 (by decide), lt_eq, g1, g2, es, ri_nI hi (by decide), i1]
            refine ⟨upd g i (nI (mn 268435456 (spl (ab th md) i) (fun v => gM (ab th md) (vM (ab th md) (lkS lk)) i v + lkS lk i) (j + 1))), ⟨pk_us, fun t ht => by rw [pk_un ht]; exact i2 t ht⟩, ?_⟩
            rw [mn]
            by_cases q : gM (ab th md) (vM (ab th md) (lkS lk)) i j + lkS lk i < mn 268435456 (spl (ab th md) i) (fun v => gM (ab th md) (vM (ab th md) (lkS lk)) i v + lkS lk i) j
            · rw [if_neg (nI_ge q (by omega)), if_pos ⟨hP, q⟩, sb', wi_nI hi (by decide), sb', lt_eq, nI_1 j]
            · rw [if_pos (nI_le (by omega) (by omega)), if_neg (fun w => q w.2), ri_nI hi (by decide), i1, sb', wi_nI hi (by decide), sb', lt_eq, nI_1 j]
          · refine ⟨g, ⟨?_, i2⟩, ?_⟩
            · rw [i1, mn, if_neg (fun w => hP w.1)]
            · rw [if_neg hP, if_pos rfl, sb', lt_eq, nI_1 j]) FU 0 (upd f i 268435456) (by omega) (fu_lt (by omega)) ⟨pk_us, fun t ht => pk_un ht⟩
        refine ⟨g, fun s hs hsa => ?_, e⟩
        by_cases w : s = i
        · subst w
          have b0 := bg v0 hP0
          rw [i1, vM_eq]
          unfold stM
          rw [if_neg h2, ← mn_add, mn_DD (D' := 1000000 + lkS lk s) hv0 hP0 (by omega) (by omega)]
        · rw [i2 s w]; exact hI s (by omega) hsa
      · refine ⟨upd f i 268435456, fun s hs hsa => ?_, ?_⟩
        · by_cases w : s = i
          · subst w; exact absurd hsa hsub
          · rw [pk_un w]; exact hI s (by omega) hsa
        · rw [fu_s, LX11_mean_59_s, if_neg (by decide), many11 hi, sb', if_neg (fun w => by have := (le1 hp).mp w; omega), if_neg (fun w => hsub ((subN hi hl).mp w)), lt_eq, nI_1]
end
