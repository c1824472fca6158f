/-! the class solves a set -/
section
variable {th : Int32} {md td wk lk ov : Nat → Int32}
theorem splits10 (ho : ∀ x, x < 12 → ov x = nI (ab th md x)) {s v : Nat} (hs : s < 4096) (hv : v < 12) : f_X2_splits (nI v) (nI s) ov = some (if spl (ab th md) s v = true then 1 else 0) := by
  unfold f_X2_splits
  have l1 := yS_lt (ab th md) v hs
  rw [ri_nI hv (by decide), ho v hv, lt_eq, and_nI, show s &&& ab th md v = yS (ab th md) s v from rfl]
  by_cases q1 : yS (ab th md) s v = 0
  · rw [q1, if_pos (by decide), if_neg (fun w => (spl_i.mp w).1 q1)]
  · rw [if_neg (nI_ne0 (by omega) (by omega))]
    by_cases q2 : yS (ab th md) s v = s
    · rw [if_pos (by rw [q2]), if_neg (fun w => (spl_i.mp w).2 q2)]
    · rw [if_neg (fun w => q2 ((nI_eq (by omega) (by omega)).mp w)), if_pos (spl_i.mpr ⟨q1, q2⟩)]
theorem lidsBy10 (ho : ∀ x, x < 12 → ov x = nI (ab th md x)) {s v p q N1 : Nat} (hs : s < 4096) (hsN : s < N1) (hN : N1 ≤ 4096) (hv : v < 12) {f : Nat → Int32} (h1 : f (yS (ab th md) s v) = nI p) (h2 : f (nS (ab th md) s v) = nI q) (hp : p < 2 ^ 31) (hq : q < 2 ^ 31) : f_X2_lidsBy (nI v) (nI s) ov f N1 = some (nI (1 + mx p q)) := by
  unfold f_X2_lidsBy
  have l1 : yS (ab th md) s v ≤ s := by rw [← yS_sub]; exact Nat.and_le_right
  have l2 : nS (ab th md) s v ≤ s := by rw [← nS_sub]; exact Nat.and_le_right
  rw [ri_nI hv (by decide), ho v hv, lt_eq, and_nI, show s &&& ab th md v = yS (ab th md) s v from rfl, ri_nI (by omega) (by omega), xor_nI, show s ^^^ yS (ab th md) s v = nS (ab th md) s v from rfl, ri_nI (by omega) (by omega), lt_eq, h1, h2, mx10 hp hq, show (1 : Int32) = nI 1 from rfl, nI_add]
theorem i12 (n : Nat) : nI n * 12 = nI (n * 12) := pk_mul n 12
theorem minBy10 (ho : ∀ x, x < 12 → ov x = nI (ab th md x)) {s v p q N1 li : Nat} (hs : s < 4096) (hsN : s < N1) (hN : N1 ≤ 4096) (hv : v < 12) {f : Nat → Int32} (h1 : f (yS (ab th md) s v * 12 + v) = nI p) (h2 : f (nS (ab th md) s v * 12 + v) = nI q) (hp : p < 2 ^ 31) (hq : q < 2 ^ 31) : f_X2_minutesBy (nI v) (nI s) (nI li) ov f (N1 * 12) = some (nI (li + mx p q)) := by
  unfold f_X2_minutesBy
  have l1 : yS (ab th md) s v ≤ s := by rw [← yS_sub]; exact Nat.and_le_right
  have l2 : nS (ab th md) s v ≤ s := by rw [← nS_sub]; exact Nat.and_le_right
  rw [ri_nI hv (by decide), ho v hv, lt_eq, and_nI, show s &&& ab th md v = yS (ab th md) s v from rfl, i12, nI_add, ri_nI (by omega) (by omega), xor_nI, show s ^^^ yS (ab th md) s v = nS (ab th md) s v from rfl, i12, nI_add, ri_nI (by omega) (by omega), lt_eq, h1, h2, mx10 hp hq, nI_add]
theorem fill10 {b n3 : Nat} {q2 : Int32} (hb' : b + 12 ≤ n3) (h3 : n3 < 2 ^ 31) (ko : Int32 → (Nat → Int32) → Option ((Nat → Int32) × (Nat → Int32) × (Nat → Int32))) (f0 : Nat → Int32) : ∃ f, ((∀ y, y < 12 → f (b + y) = (if q2 = 0 then 1000000 else 0)) ∧ ∀ j, (j < b ∨ b + 12 ≤ j) → f j = f0 j) ∧ LX2_solveFor_22 n3 q2 (nI b) ko FU 0 f0 = ko (nI 12) f := by
  refine its (S := Nat → Int32) 12 (fun x f => (∀ y, y < x → f (b + y) = (if q2 = 0 then 1000000 else 0)) ∧ ∀ j, (j < b ∨ b + 12 ≤ j) → f j = f0 j) (fun N x f => LX2_solveFor_22 n3 q2 (nI b) ko N (nI x) f) (fun f => ko (nI 12) f) ?_ ?_ FU 0 f0 (by omega) (fu_lt (by omega)) ⟨fun y hy => by omega, fun j _ => rfl⟩
  · intro N f _
    show LX2_solveFor_22 n3 q2 (nI b) ko (N + 1) (nI 12) f = _
    rw [LX2_solveFor_22_s, if_pos (by decide)]
  · rintro N x f hx ⟨i1, i2⟩
    try dsimp only
    refine ⟨upd f (b + x) (if q2 = 0 then 1000000 else 0), ⟨fun y hy => ?_, fun j hj => ?_⟩, ?_⟩
    · by_cases q : y = x
      · subst q; rw [pk_us]
      · rw [pk_un (by omega)]; exact i1 y (by omega)
    · rw [pk_un (by omega)]; exact i2 j hj
    · rw [LX2_solveFor_22_s, if_neg (lt12 hx), ib, nI_add, wi_nI (by omega) h3, lt_eq, nI_1]
theorem mnI {D j : Nat} {P : Nat → Bool} {g : Nat → Nat} (hP : P j = true) (hD : D < 2 ^ 31) (hg : g j < 2 ^ 31) : (if nI (g j) < nI (mn D P g j) then nI (g j) else nI (mn D P g j)) = nI (mn D P g (j + 1)) := by
  have := mn_D D P g j
  rw [mn]
  by_cases q : g j < mn D P g j
  · rw [if_pos (nI_lt q (by omega)), if_pos ⟨hP, q⟩]
  · rw [if_neg (nI_nlt (by omega) (by omega)), if_neg (fun w => q w.2)]
/-- what a table holds of a set -/
def Tb (th : Int32) (md wk lk : Nat → Int32) (li : Nat) (few sum mi : Nat → Int32) (t : Nat) : Prop := few t = nI (vF (ab th md) t) ∧ sum t = nI (vM (ab th md) (lkS lk) t) ∧ ∀ x, x < 12 → hb th x = true → mi (t * 12 + x) = nI (vS (ab th md) li (wN md wk) t x)
theorem solveFor10 (hT : Tree th md) (hd : ∀ v, v < 12 → hb th v = true → td v = md v) (hn : ∀ v, v < 12 → ¬ hb th v = true → td v = -1) (hw : Bd wk 12 60) (hlk : Bd lk 12 99) (ho : ∀ x, x < 12 → ov x = nI (ab th md x)) {li N1 s : Nat} (hli : li ≤ 60) (hN : N1 ≤ 4096) (hsN : s < N1) (hsa : s &&& srN th lk = s) {few sum mi : Nat → Int32} (hq : ∀ v, v < 12 → spl (ab th md) s v = true → Tb th md wk lk li few sum mi (yS (ab th md) s v) ∧ Tb th md wk lk li few sum mi (nS (ab th md) s v)) : ∃ few' sum' mi' : Nat → Int32, f_X2_solveFor (nI s) td wk lk (nI li) ov few sum mi N1 N1 (N1 * 12) = some (few', sum', mi') ∧ Tb th md wk lk li few' sum' mi' s ∧ (∀ t, t ≠ s → few' t = few t ∧ sum' t = sum t) ∧ ∀ j, (j < s * 12 ∨ s * 12 + 12 ≤ j) → mi' j = mi j := by
  have hs := sub_lt hsa
  have hp := pc_le s 12
  unfold f_X2_solveFor
  rw [bc10 hs, sb', ib, i12, lt_eq]
  by_cases h2 : pc s 12 < 2
  · rw [if_neg (show ¬ (1 : Int32) < nI (pc s 12) from fun w => by
      have := (nI_ltI (a := 1) (by decide) (by omega)).mp w
      omega)]
    obtain ⟨f, ⟨j1, j2⟩, e⟩ := fill10 (b := s * 12) (n3 := N1 * 12) (q2 := 1) (by omega) (by omega) (fun x6 f7 => LX2_solveFor_65 (nI s) (nI li) ov few sum N1 N1 (N1 * 12) 1 (nI (s * 12)) (fun x18 x19 x20 f21 => (if (1 : Int32) = 0 then some (x18) else some (0) : Option (Int32)).bind fun q41 => wi few N1 (nI s) (q41) fun f42 => (if (1 : Int32) = 0 then (f_X9_likelyOf (nI s) lk).bind fun q50 => some ((x19 + q50)) else some (0) : Option (Int32)).bind fun q44 => wi sum N1 (nI s) (q44) fun f45 => if (1 : Int32) = 0 then (f_X2_walkToLids (nI (s * 12)) td wk f21 (N1 * 12)).bind fun q48 => some (f42, f45, q48) else some (f42, f45, f21)) FU 1000000 1000000 0 f7) mi
    rw [if_neg one_ne] at j1
    refine ⟨upd few s 0, upd sum s 0, f, ?_, ⟨?_, ?_, ?_⟩, fun t ht => ⟨pk_un ht, pk_un ht⟩, j2⟩
    · refine Eq.trans e ?_
      rw [fu_s, LX2_solveFor_65_s, if_neg (by decide), if_neg one_ne, if_neg one_ne, sb', wi_nI hsN (by omega), if_neg one_ne, sb', wi_nI hsN (by omega), if_neg one_ne]
    · rw [pk_us, vF_eq]; unfold stF; rw [if_pos h2]; rfl
    · rw [pk_us, vM_eq]; unfold stM; rw [if_pos h2]; rfl
    · intro x hx tx
      rw [j1 x hx, vS_eq]; unfold stS; rw [if_pos h2]; rfl
  · rw [if_pos (show (1 : Int32) < nI (pc s 12) from nI_lt (a := 1) (by omega) (by omega))]
    obtain ⟨v0, hv0, _, hP0⟩ := spl_ex hT hsa (by omega)
    have hlS : ∀ s, lkS lk s ≤ 1188 := fun s => by
      have := (lS_e hlk s 12 (Nat.le_refl _)).2
      unfold lkS; omega
    have hwN : ∀ x v, wN md wk x v ≤ 660 := fun x v => (wN_e hw x v).2
    have bd : ∀ t, t &&& srN th lk = t → vF (ab th md) t ≤ 12 ∧ vM (ab th md) (lkS lk) t ≤ 27324 ∧ ∀ x, vS (ab th md) li (wN md wk) t x ≤ 8640 := by
      intro t ht
      have h3 := vF_bd hT _ ht
      have h4 := vM_bd hT hlS _ ht
      have h5 := vS_bd hT hwN hli _ ht
      have h6 := pc_le t 12
      exact ⟨by omega, by omega, fun x => by have := h5 x; omega⟩
    have bgF : ∀ v, gF (ab th md) (vF (ab th md)) s v ≤ 13 := by
      intro v
      have h3 := (bd _ (sub_tr (yS_sub (ab th md) s v) hsa)).1
      have h4 := (bd _ (sub_tr (nS_sub (ab th md) s v) hsa)).1
      have := mx_le h3 h4
      unfold gF; omega
    have bgM : ∀ v, gM (ab th md) (vM (ab th md) (lkS lk)) s v ≤ 54648 := by
      intro v
      have h3 := (bd _ (sub_tr (yS_sub (ab th md) s v) hsa)).2.1
      have h4 := (bd _ (sub_tr (nS_sub (ab th md) s v) hsa)).2.1
      unfold gM; omega
    have bgC : ∀ v, gC (ab th md) li (vS (ab th md) li (wN md wk)) s v ≤ 8700 := by
      intro v
      have h3 := (bd _ (sub_tr (yS_sub (ab th md) s v) hsa)).2.2 v
      have h4 := (bd _ (sub_tr (nS_sub (ab th md) s v) hsa)).2.2 v
      have := mx_le h3 h4
      unfold gC; omega
    obtain ⟨f, ⟨j1, j2⟩, e⟩ := fill10 (b := s * 12) (n3 := N1 * 12) (q2 := 0) (by omega) (by omega) (fun x6 f7 => LX2_solveFor_65 (nI s) (nI li) ov few sum N1 N1 (N1 * 12) 0 (nI (s * 12)) (fun x18 x19 x20 f21 => (if (0 : Int32) = 0 then some (x18) else some (0) : Option (Int32)).bind fun q41 => wi few N1 (nI s) (q41) fun f42 => (if (0 : Int32) = 0 then (f_X9_likelyOf (nI s) lk).bind fun q50 => some ((x19 + q50)) else some (0) : Option (Int32)).bind fun q44 => wi sum N1 (nI s) (q44) fun f45 => if (0 : Int32) = 0 then (f_X2_walkToLids (nI (s * 12)) td wk f21 (N1 * 12)).bind fun q48 => some (f42, f45, q48) else some (f42, f45, f21)) FU 1000000 1000000 0 f7) mi
    rw [if_pos rfl] at j1
    obtain ⟨⟨x14, x15, g⟩, ⟨k1, k2, k3, k4⟩, e2⟩ := its (S := Int32 × Int32 × (Nat → Int32)) 12 (fun i z => z.1 = nI (mn 1000000 (spl (ab th md) s) (gF (ab th md) (vF (ab th md)) s) i) ∧ z.2.1 = nI (mn 1000000 (spl (ab th md) s) (gM (ab th md) (vM (ab th md) (lkS lk)) s) i) ∧ (∀ x, x < 12 → z.2.2 (s * 12 + x) = nI (if x < i ∧ spl (ab th md) s x = true then gC (ab th md) li (vS (ab th md) li (wN md wk)) s x else 1000000)) ∧ ∀ j, (j < s * 12 ∨ s * 12 + 12 ≤ j) → z.2.2 j = mi j) (fun N i z => LX2_solveFor_65 (nI s) (nI li) ov few sum N1 N1 (N1 * 12) 0 (nI (s * 12)) (fun x18 x19 x20 f21 => (if (0 : Int32) = 0 then some (x18) else some (0) : Option (Int32)).bind fun q41 => wi few N1 (nI s) (q41) fun f42 => (if (0 : Int32) = 0 then (f_X9_likelyOf (nI s) lk).bind fun q50 => some ((x19 + q50)) else some (0) : Option (Int32)).bind fun q44 => wi sum N1 (nI s) (q44) fun f45 => if (0 : Int32) = 0 then (f_X2_walkToLids (nI (s * 12)) td wk f21 (N1 * 12)).bind fun q48 => some (f42, f45, q48) else some (f42, f45, f21)) N z.1 z.2.1 (nI i) z.2.2) (fun z => (f_X2_walkToLids (nI (s * 12)) td wk z.2.2 (N1 * 12)).bind fun q48 => some (upd few s z.1, upd sum s (z.2.1 + smS lk s 12), q48)) (by
      rintro N ⟨x14, x15, g⟩ _
      try dsimp only
      rw [LX2_solveFor_65_s, if_pos (by decide), if_pos rfl, sb', wi_nI hsN (by omega), if_pos rfl, lik10 hs, sb', sb', wi_nI hsN (by omega), if_pos rfl]) (by
      rintro N i ⟨x14, x15, g⟩ hi ⟨k1, k2, k3, k4⟩
      try dsimp only at k1 k2 k3 k4 ⊢
      subst k1 k2
      rw [LX2_solveFor_65_s, if_neg (lt12 hi), if_pos rfl, splits10 ho hs hi, sb']
      by_cases hP : spl (ab th md) s i = true
      · obtain ⟨a, b⟩ := spl_lt hP
        obtain ⟨⟨t1, t2, t3⟩, ⟨u1, u2, u3⟩⟩ := hq i hi hP
        have ti := spl_th hT hi hP
        obtain ⟨b1, b2, b3⟩ := bd _ (sub_tr (yS_sub (ab th md) s i) hsa)
        obtain ⟨c1, c2, c3⟩ := bd _ (sub_tr (nS_sub (ab th md) s i) hsa)
        have b4 := b3 i
        have c4 := c3 i
        have m1 : g (yS (ab th md) s i * 12 + i) = nI (vS (ab th md) li (wN md wk) (yS (ab th md) s i) i) := by
          rw [k4 _ (by omega)]; exact t3 i hi ti
        have m2 : g (nS (ab th md) s i * 12 + i) = nI (vS (ab th md) li (wN md wk) (nS (ab th md) s i) i) := by
          rw [k4 _ (by omega)]; exact u3 i hi ti
        have g1 := bgF i
        have g2 := bgM i
        have eM : nI (vM (ab th md) (lkS lk) (yS (ab th md) s i)) + nI (vM (ab th md) (lkS lk) (nS (ab th md) s i)) = nI (gM (ab th md) (vM (ab th md) (lkS lk)) s i) := nI_add _ _
        rw [if_pos hP, if_neg one_ne, ri_nI hi (by decide), ho i hi, lt_eq, and_nI, show s &&& ab th md i = yS (ab th md) s i from rfl, lidsBy10 ho hs hsN hN hi t1 u1 (by omega) (by omega), sb', show 1 + mx (vF (ab th md) (yS (ab th md) s i)) (vF (ab th md) (nS (ab th md) s i)) = gF (ab th md) (vF (ab th md)) s i from rfl, mnI hP (by decide) (by omega), lt_eq, ri_nI (by omega) (by omega), xor_nI, show s ^^^ yS (ab th md) s i = nS (ab th md) s i from rfl, ri_nI (by omega) (by omega), t2, u2, eM, mnI hP (by decide) (by omega), lt_eq, minBy10 ho hs hsN hN hi m1 m2 (by omega) (by omega), sb', nI_add, wi_nI (by omega) (by omega), sb', lt_eq, nI_1]
        refine ⟨(_, _, _), ⟨rfl, rfl, fun x hx => ?_, fun j hj => ?_⟩, rfl⟩
        · dsimp only
          by_cases q : x = i
          · subst q
            rw [pk_us, if_pos ⟨by omega, hP⟩]; rfl
          · rw [pk_un (by omega), k3 x hx]
            congr 1
            by_cases w : x < i ∧ spl (ab th md) s x = true
            · rw [if_pos w, if_pos ⟨by omega, w.2⟩]
            · rw [if_neg w, if_neg (fun z => w ⟨by omega, z.2⟩)]
        · dsimp only
          rw [pk_un (by omega)]; exact k4 j hj
      · rw [if_neg hP, if_pos rfl, sb', lt_eq, nI_1]
        refine ⟨(_, _, _), ⟨?_, ?_, fun x hx => ?_, k4⟩, rfl⟩
        · dsimp only; rw [mn, if_neg (fun w => hP w.1)]
        · dsimp only; rw [mn, if_neg (fun w => hP w.1)]
        · dsimp only
          rw [k3 x hx]
          congr 1
          by_cases w : x < i ∧ spl (ab th md) s x = true
          · rw [if_pos w, if_pos ⟨by omega, w.2⟩]
          · rw [if_neg w, if_neg (fun z => w ⟨by
              have h1 := z.1
              have h2 : x ≠ i := fun q => hP (by rw [← q]; exact z.2)
              omega, z.2⟩)]) FU 0 (1000000, 1000000, f) (by omega) (fu_lt (by omega)) ⟨rfl, rfl, fun x hx => by
        try dsimp only
        rw [j1 x hx, if_neg (fun w => by omega)]; rfl, j2⟩
    try dsimp only at k1 k2 k3 k4 e2
    subst k1 k2
    obtain ⟨f', D, s1, s2, s3, s4⟩ := sweep10 (f0 := g) (b := s * 12) (n3 := N1 * 12) (D0 := fun x => if x < 12 ∧ spl (ab th md) s x = true then gC (ab th md) li (vS (ab th md) li (wN md wk)) s x else 1000000) hT hd hn hw (by omega) (by omega) (fun x hx => ⟨k3 x hx, by
      try dsimp only
      have := bgC x
      split <;> omega⟩)
    rw [s1, sb'] at e2
    refine ⟨_, _, f', e.trans e2, ⟨?_, ?_, ?_⟩, fun t ht => ⟨pk_un ht, pk_un ht⟩, fun j hj => by rw [s3 j hj]; exact k4 j hj⟩
    · rw [pk_us, vF_eq]; unfold stF; rw [if_neg h2]
    · rw [pk_us, vM_eq, (lS_e hlk s 12 (Nat.le_refl _)).1, nI_add]; unfold stM; rw [if_neg h2]; rfl
    · intro x hx tx
      rw [s2 x hx, vS_eq]
      unfold stS
      rw [if_neg h2]
      obtain ⟨a1, v, a2, a3, a4⟩ := s4 x hx tx
      have z0 := a1 v0 hv0 (spl_th hT hv0 hP0)
      try dsimp only at z0 a4
      rw [if_pos ⟨hv0, hP0⟩] at z0
      have z1 := bgC v0
      have z2 := hwN x v0
      congr 1
      refine (mn_uniq (fun u hu hPu => ?_) ?_ (by omega)).symm
      · have := a1 u hu (spl_th hT hu hPu)
        try dsimp only at this
        rw [if_pos ⟨hu, hPu⟩] at this
        omega
      · by_cases hPv : spl (ab th md) s v = true
        · rw [if_pos ⟨a2, hPv⟩] at a4
          exact ⟨v, a2, hPv, by omega⟩
        · rw [if_neg (fun w => hPv w.2)] at a4
          omega
end
