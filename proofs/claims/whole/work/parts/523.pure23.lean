/-! room, marks, and all sets -/
theorem nw_nI {R : Type} {bd m : Nat} {k : Nat → Option R} (h : m ≤ bd) (hb' : bd < 2 ^ 31) : nw bd (nI m) k = k m := by
  unfold nw
  rw [nI_clamp (by omega), if_neg (fun w => by
    rcases w with w | w
    · exact nI_pos (by omega) w
    · omega)]
theorem room10 {a N1 : Nat} (ha : a < 4096) (hN : N1 ≤ 4096) (sv : Int32) (few sum mi : Nat → Int32) : ∃ (few' sum' mi' : Nat → Int32) (N' : Nat), f_X2_makeRoomFor (nI a) sv few sum mi N1 N1 (N1 * 12) = some (few', sum', mi', N', N', N' * 12) ∧ a < N' ∧ N' ≤ 4096 := by
  unfold f_X2_makeRoomFor
  have key : ∀ (ko : Int32 → Int32 → Option ((Nat → Int32) × (Nat → Int32) × (Nat → Int32) × Nat × Nat × Nat)) (d j N : Nat), j + d = 12 → d < N → ∃ m, m ≤ 12 ∧ a < 2 ^ m ∧ LX2_makeRoomFor_4 (nI a) ko N (nI (2 ^ j)) (nI j) = ko (nI (2 ^ m)) (nI m) := by
    intro ko d
    induction d with
    | zero =>
      intro j N hj hN
      obtain ⟨n, rfl⟩ : ∃ n, N = n + 1 := ⟨N - 1, by omega⟩
      have : j = 12 := by omega
      subst this
      refine ⟨12, Nat.le_refl _, ha, ?_⟩
      rw [LX2_makeRoomFor_4_s, if_pos (by decide)]
    | succ d ih =>
      intro j N hj hN
      obtain ⟨n, rfl⟩ : ∃ n, N = n + 1 := ⟨N - 1, by omega⟩
      have hj2 : 2 ^ j < 2 ^ 31 := Nat.pow_lt_pow_right (by decide) (by omega)
      rw [LX2_makeRoomFor_4_s, if_neg (lt12 (by omega))]
      by_cases q : a < 2 ^ j
      · refine ⟨j, by omega, q, ?_⟩
        rw [if_pos (nI_lt q hj2)]
      · obtain ⟨m, h1, h2, h3⟩ := ih (j + 1) n (by omega) (by omega)
        refine ⟨m, h1, h2, ?_⟩
        rw [if_neg (nI_nlt (by omega) (by omega)), lt_eq, lt_eq, nI_1, show nI (2 ^ j) * 2 = nI (2 ^ j * 2) from pk_mul _ 2, ← Nat.pow_succ]
        exact h3
  obtain ⟨m, h1, h2, h3⟩ := key (fun x3 _ => if x3 ≤ (nI N1) then some (few, sum, mi, N1, N1, N1 * 12) else nw 4096 (x3) fun n10 => nw 4096 (x3) fun n12 => nw 49152 ((x3 * 12)) fun n14 => some ((fun _ => 0), (fun _ => 0), (fun _ => 0), n10, n12, n14)) 12 0 FU (by omega) (fu_lt (by omega))
  have hm : 2 ^ m ≤ 2 ^ 12 := Nat.pow_le_pow_right (by decide) h1
  have h12 : (2 : Nat) ^ 12 = 4096 := by decide
  have h3' : LX2_makeRoomFor_4 (nI a) (fun x3 _ => if x3 ≤ (nI N1) then some (few, sum, mi, N1, N1, N1 * 12) else nw 4096 (x3) fun n10 => nw 4096 (x3) fun n12 => nw 49152 ((x3 * 12)) fun n14 => some ((fun _ => 0), (fun _ => 0), (fun _ => 0), n10, n12, n14)) FU 1 0 = _ := h3
  rw [h3']
  by_cases q : 2 ^ m ≤ N1
  · rw [if_pos (nI_le q (by omega))]
    exact ⟨_, _, _, N1, rfl, by omega, hN⟩
  · rw [if_neg (nI_ge (by omega) (by omega)), nw_nI (by omega) (by decide), nw_nI (by omega) (by decide), i12, nw_nI (by omega) (by decide)]
    exact ⟨_, _, _, 2 ^ m, rfl, h2, by omega⟩
section
variable {th : Int32} {md td wk lk ov : Nat → Int32}
theorem markP10 (ho : ∀ x, x < 12 → ov x = nI (ab th md x)) {k N1 : Nat} (hk : k < 4096) (hkN : k < N1) (hN : N1 ≤ 4096) (f : Nat → Int32) : ∃ g : Nat → Int32, f_X2_markPartsOf (nI k) ov f N1 = some g ∧ (∀ t, g t = f t ∨ (g t = 1000000 ∧ ∃ v, v < 12 ∧ spl (ab th md) k v = true ∧ (t = yS (ab th md) k v ∨ t = nS (ab th md) k v))) ∧ ∀ v, v < 12 → spl (ab th md) k v = true → g (yS (ab th md) k v) = 1000000 ∧ g (nS (ab th md) k v) = 1000000 := by
  unfold f_X2_markPartsOf
  obtain ⟨g, ⟨h1, h2⟩, e⟩ := its (S := Nat → Int32) 12 (fun j g => (∀ t, g t = f t ∨ (g t = 1000000 ∧ ∃ v, v < 12 ∧ spl (ab th md) k v = true ∧ (t = yS (ab th md) k v ∨ t = nS (ab th md) k v))) ∧ ∀ v, v < j → spl (ab th md) k v = true → g (yS (ab th md) k v) = 1000000 ∧ g (nS (ab th md) k v) = 1000000) (fun N j g => LX2_markPartsOf_2 (nI k) ov N1 (fun _ f4 => some f4) N (nI j) g) (fun g => some g) (by
    intro N g _
    show LX2_markPartsOf_2 (nI k) ov N1 _ (N + 1) (nI 12) g = _
    rw [LX2_markPartsOf_2_s, if_pos (by decide)]) (by
    rintro N j g hj ⟨i1, i2⟩
    try dsimp only
    rw [LX2_markPartsOf_2_s, if_neg (lt12 hj), splits10 ho hk hj, sb']
    by_cases hP : spl (ab th md) k j = true
    · obtain ⟨a, b⟩ := spl_lt hP
      rw [if_pos hP, if_neg one_ne, ri_nI hj (by decide), ho j hj, lt_eq, and_nI, show k &&& ab th md j = yS (ab th md) k j from rfl, wi_nI (by omega) (by omega), xor_nI, show k ^^^ yS (ab th md) k j = nS (ab th md) k j from rfl, wi_nI (by omega) (by omega), sb', lt_eq, nI_1]
      refine ⟨_, ⟨fun t => ?_, fun v hv hPv => ?_⟩, rfl⟩
      · by_cases q1 : t = nS (ab th md) k j
        · rw [q1, pk_us]; exact Or.inr ⟨rfl, j, hj, hP, Or.inr rfl⟩
        · rw [pk_un q1]
          by_cases q2 : t = yS (ab th md) k j
          · rw [q2, pk_us]; exact Or.inr ⟨rfl, j, hj, hP, Or.inl rfl⟩
          · rw [pk_un q2]; exact i1 t
      · have one : ∀ t, (t = yS (ab th md) k j ∨ t = nS (ab th md) k j ∨ g t = 1000000) → upd (upd g (yS (ab th md) k j) 1000000) (nS (ab th md) k j) 1000000 t = 1000000 := by
          intro t ht
          by_cases q1 : t = nS (ab th md) k j
          · rw [q1, pk_us]
          · rw [pk_un q1]
            by_cases q2 : t = yS (ab th md) k j
            · rw [q2, pk_us]
            · rw [pk_un q2]
              rcases ht with h | h | h
              · exact absurd h q2
              · exact absurd h q1
              · exact h
        by_cases q : v = j
        · subst q
          exact ⟨one _ (Or.inl rfl), one _ (Or.inr (Or.inl rfl))⟩
        · obtain ⟨a1, a2⟩ := i2 v (by omega) hPv
          exact ⟨one _ (Or.inr (Or.inr a1)), one _ (Or.inr (Or.inr a2))⟩
    · rw [if_neg hP, if_pos rfl, sb', lt_eq, nI_1]
      refine ⟨g, ⟨i1, fun v hv hPv => ?_⟩, rfl⟩
      by_cases q : v = j
      · subst q; exact absurd hPv hP
      · exact i2 v (by omega) hPv) FU 0 f (by omega) (fu_lt (by omega)) ⟨fun t => Or.inl rfl, fun v hv => by omega⟩
  exact ⟨g, e, h1, h2⟩
theorem mark10 (ho : ∀ x, x < 12 → ov x = nI (ab th md x)) {a N1 : Nat} (ha : a < 4096) (haN : a < N1) (hN : N1 ≤ 4096) (f0 : Nat → Int32) : ∃ f : Nat → Int32, f_X2_markWhatMayBeLeft (nI a) ov f0 N1 = some f ∧ f a = 1000000 ∧ (∀ s, s ≤ a → f s ≠ -1 → s &&& a = s) ∧ ∀ s, s ≤ a → f s ≠ -1 → ∀ v, v < 12 → spl (ab th md) s v = true → f (yS (ab th md) s v) ≠ -1 ∧ f (nS (ab th md) s v) ≠ -1 := by
  unfold f_X2_markWhatMayBeLeft
  have hF : (1000000 : Int32) ≠ -1 := by decide
  obtain ⟨f1, h1, e1⟩ := its (S := Nat → Int32) (a + 1) (fun i f => ∀ s, s < i → f s = -1) (fun N i f => LX2_markWhatMayBeLeft_2 (nI a) N1 (fun _ f4 => wi f4 N1 (nI a) (1000000) fun f9 => LX2_markWhatMayBeLeft_30 ov N1 (fun _ f14 => some f14) FU (nI a) f9) N (nI i) f) (fun f => wi f N1 (nI a) (1000000) fun f9 => LX2_markWhatMayBeLeft_30 ov N1 (fun _ f14 => some f14) FU (nI a) f9) (by
    intro N f _
    show LX2_markWhatMayBeLeft_2 (nI a) N1 _ (N + 1) (nI (a + 1)) f = _
    rw [LX2_markWhatMayBeLeft_2_s, if_pos (nI_lt (by omega) (by omega))]) (by
    intro N i f hi hI
    try dsimp only
    refine ⟨upd f i (-1), fun s hs => ?_, ?_⟩
    · by_cases q : s = i
      · subst q; rw [pk_us]
      · rw [pk_un q]; exact hI s (by omega)
    · rw [LX2_markWhatMayBeLeft_2_s, if_neg (nI_nlt (by omega) (by omega)), wi_nI (by omega) (by omega), lt_eq, nI_1]) FU 0 f0 (by omega) (fu_lt (by omega)) (fun s hs => by omega)
  obtain ⟨f2, ⟨c1, c2, c3⟩, e2⟩ := its (S := Nat → Int32) a (fun i f => f a = 1000000 ∧ (∀ s, s ≤ a → f s ≠ -1 → s &&& a = s) ∧ ∀ s, a - i < s → s ≤ a → f s ≠ -1 → ∀ v, v < 12 → spl (ab th md) s v = true → f (yS (ab th md) s v) ≠ -1 ∧ f (nS (ab th md) s v) ≠ -1) (fun N i f => LX2_markWhatMayBeLeft_30 ov N1 (fun _ f14 => some f14) N (nI (a - i)) f) (fun f => some f) (by
    intro N f _
    show LX2_markWhatMayBeLeft_30 ov N1 _ (N + 1) (nI (a - a)) f = _
    rw [LX2_markWhatMayBeLeft_30_s, Nat.sub_self, if_pos (by decide)]) (by
    rintro N i f hi ⟨c1, c2, c3⟩
    try dsimp only
    obtain ⟨k, hk⟩ : ∃ k, a - i = k + 1 := ⟨a - i - 1, by omega⟩
    have hk2 : a - (i + 1) = k := by omega
    rw [hk] at c3 ⊢
    rw [hk2]
    rw [LX2_markWhatMayBeLeft_30_s, if_neg (nI_nle (by omega) (by omega)), ri_nI (by omega) (by omega)]
    by_cases q : f (k + 1) = -1
    · rw [if_pos q, sb', lt_eq, pk_m1]
      refine ⟨f, ⟨c1, c2, fun s h1 h2 h3 => ?_⟩, rfl⟩
      by_cases w : s = k + 1
      · subst w; exact absurd q h3
      · exact c3 s (by omega) h2 h3
    · obtain ⟨g, e, g1, g2⟩ := markP10 ho (k := k + 1) (N1 := N1) (by omega) (by omega) hN f
      rw [if_neg q, e, sb', sb', lt_eq, pk_m1]
      have up : ∀ t, f t ≠ -1 → g t ≠ -1 := by
        intro t ht
        rcases g1 t with h | ⟨h, _⟩
        · rw [h]; exact ht
        · rw [h]; exact hF
      have hi' : ∀ t, k + 1 ≤ t → g t = f t := by
        intro t ht
        rcases g1 t with h | ⟨_, v, _, h2, h3⟩
        · exact h
        · have := spl_lt h2
          omega
      refine ⟨g, ⟨by rw [hi' a (by omega)]; exact c1, fun s h1 h2 => ?_, fun s h1 h2 h3 v hv hP => ?_⟩, rfl⟩
      · rcases g1 s with h | ⟨_, v, _, _, h3⟩
        · rw [h] at h2; exact c2 s h1 h2
        · have hka := c2 (k + 1) (by omega) q
          rcases h3 with h3 | h3
          · rw [h3]; exact sub_tr (yS_sub _ _ _) hka
          · rw [h3]; exact sub_tr (nS_sub _ _ _) hka
      · by_cases w : s = k + 1
        · subst w
          obtain ⟨z1, z2⟩ := g2 v hv hP
          rw [z1, z2]; exact ⟨hF, hF⟩
        · rw [hi' s (by omega)] at h3
          obtain ⟨z1, z2⟩ := c3 s (by omega) h2 h3 v hv hP
          exact ⟨up _ z1, up _ z2⟩) FU 0 (upd f1 a 1000000) (by omega) (fu_lt (by omega)) ⟨pk_us, fun s h2 h3 => by
      by_cases w : s = a
      · subst w; exact Nat.and_self s
      · rw [pk_un w] at h3; exact absurd (h1 s (by omega)) h3, fun s h2 h3 => by omega⟩
  refine ⟨f2, ?_, c1, c2, fun s h2 h3 v hv hP => ?_⟩
  · refine Eq.trans e1 ?_
    rw [wi_nI haN (by omega)]
    exact e2
  · by_cases w : s = 0
    · subst w
      have := spl_lt hP
      omega
    · exact c3 s (by omega) h2 h3 v hv hP
/-- all sets that may be left are solved -/
def Slv (th : Int32) (md wk lk : Nat → Int32) (li : Nat) (few sum mi : Nat → Int32) (N1 : Nat) : Prop := srN th lk < N1 ∧ ∃ mk : Nat → Prop, mk (srN th lk) ∧ ∀ s, mk s → s &&& srN th lk = s ∧ Tb th md wk lk li few sum mi s ∧ ∀ v, v < 12 → spl (ab th md) s v = true → mk (yS (ab th md) s v) ∧ mk (nS (ab th md) s v)
theorem Tb.keep {li : Nat} {few sum mi few' sum' mi' : Nat → Int32} {t : Nat} (h : Tb th md wk lk li few sum mi t) (h1 : few' t = few t) (h2 : sum' t = sum t) (h3 : ∀ x, x < 12 → mi' (t * 12 + x) = mi (t * 12 + x)) : Tb th md wk lk li few' sum' mi' t :=
  ⟨h1.trans h.1, h2.trans h.2.1, fun x hx tx => (h3 x hx).trans (h.2.2 x hx tx)⟩
theorem solve10 (hT : Tree th md) (hd : ∀ v, v < 12 → hb th v = true → td v = md v) (hn : ∀ v, v < 12 → ¬ hb th v = true → td v = -1) (hw : Bd wk 12 60) (hlk : Bd lk 12 99) (ho : ∀ x, x < 12 → ov x = nI (ab th md x)) {li N1 : Nat} (hli : li ≤ 60) (hN : N1 ≤ 4096) {sv : Int32} {few sum mi : Nat → Int32} (hk : sv = 0 ∨ sv = 1 ∧ Slv th md wk lk li few sum mi N1) : ∃ (few' sum' mi' : Nat → Int32) (N' : Nat), f_X2_solve td wk lk (nI li) (nI (srN th lk)) ov sv few sum mi N1 N1 (N1 * 12) = some (1, few', sum', mi', N', N', N' * 12) ∧ N' ≤ 4096 ∧ Slv th md wk lk li few' sum' mi' N' := by
  unfold f_X2_solve
  have hl := sr_lt th lk
  rcases hk with rfl | ⟨rfl, hS⟩
  · rw [if_pos rfl]
    obtain ⟨r1, r2, r3, M, e1, hM, hM2⟩ := room10 hl hN 0 few sum mi
    obtain ⟨f, e2, m1, m2, m3⟩ := mark10 ho hl hM hM2 r1
    rw [e1, sb']
    try dsimp only
    rw [e2, sb']
    obtain ⟨⟨g1, g2, g3⟩, ⟨c1, c2⟩, e3⟩ := its (S := (Nat → Int32) × (Nat → Int32) × (Nat → Int32)) (srN th lk + 1) (fun i z => (∀ s, i ≤ s → s ≤ srN th lk → z.1 s = f s) ∧ ∀ s, s < i → f s ≠ -1 → Tb th md wk lk li z.1 z.2.2 z.2.1 s) (fun N i z => LX2_solve_28 td wk lk (nI li) (nI (srN th lk)) ov (r1, r2, r3, M, M, M * 12) (fun _ f9 f10 f11 => some (1, f9, f11, f10, M, M, M * 12)) N (nI i) z.1 z.2.1 z.2.2) (fun z => some (1, z.1, z.2.2, z.2.1, M, M, M * 12)) (by
      intro N z _
      show LX2_solve_28 td wk lk (nI li) (nI (srN th lk)) ov _ _ (N + 1) (nI (srN th lk + 1)) z.1 z.2.1 z.2.2 = _
      rw [LX2_solve_28_s, if_pos (nI_lt (by omega) (by omega))]) (by
      rintro N i ⟨z1, z2, z3⟩ hi ⟨c1, c2⟩
      try dsimp only at c1 c2 ⊢
      rw [LX2_solve_28_s, if_neg (nI_nlt (by omega) (by omega))]
      try dsimp only
      rw [ri_nI (by omega) (by omega), c1 i (by omega) (by omega)]
      by_cases q : f i = -1
      · rw [if_pos q, sb', lt_eq, nI_1]
        refine ⟨(z1, z2, z3), ⟨fun s h1 h2 => c1 s (by omega) h2, fun s h1 h2 => ?_⟩, rfl⟩
        by_cases w : s = i
        · subst w; exact absurd q h2
        · exact c2 s (by omega) h2
      · obtain ⟨few', sum', mi', s1, s2, s3, s4⟩ := solveFor10 (td := td) (few := z1) (sum := z3) (mi := z2) hT hd hn hw hlk ho hli hM2 (s := i) (N1 := M) (by omega) (m2 i (by omega) q) (fun v hv hP => by
          obtain ⟨a, b⟩ := spl_lt hP
          obtain ⟨n1, n2⟩ := m3 i (by omega) q v hv hP
          exact ⟨c2 _ a n1, c2 _ b n2⟩)
        rw [if_neg q, s1, sb', sb', lt_eq, nI_1]
        refine ⟨(few', mi', sum'), ⟨fun s h1 h2 => ?_, fun s h1 h2 => ?_⟩, rfl⟩
        · dsimp only
          rw [(s3 s (by omega)).1]; exact c1 s (by omega) h2
        · dsimp only
          by_cases w : s = i
          · subst w; exact s2
          · exact (c2 s (by omega) h2).keep (s3 s w).1 (s3 s w).2 (fun x hx => s4 _ (by omega))) FU 0 (f, r3, r2) (by omega) (fu_lt (by omega)) ⟨fun s _ _ => rfl, fun s h => by omega⟩
    try dsimp only at c1 c2 e3
    refine ⟨g1, g3, g2, M, e3, hM2, hM, fun s => s ≤ srN th lk ∧ f s ≠ -1, ⟨Nat.le_refl _, by rw [m1]; decide⟩, fun s hs => ⟨m2 s hs.1 hs.2, c2 s (by omega) hs.2, fun v hv hP => ?_⟩⟩
    obtain ⟨a, b⟩ := spl_lt hP
    obtain ⟨n1, n2⟩ := m3 s hs.1 hs.2 v hv hP
    exact ⟨⟨by omega, n1⟩, ⟨by omega, n2⟩⟩
  · rw [if_neg one_ne]
    exact ⟨few, sum, mi, N1, rfl, hN, hS⟩
end
