/-! the minutes of the class: over the pipes, up and down -/
section
variable {th : Int32} {md td wk : Nat → Int32}
theorem wN_self (md wk : Nat → Int32) (a : Nat) : wN md wk a a = 0 := by unfold wN; rw [wk2_self]; rfl
theorem wN_sym (md wk : Nat → Int32) (a b : Nat) : wN md wk a b = wN md wk b a := by unfold wN; rw [wk2_sym]
theorem wN_up (hT : Tree th md) (hw : Bd wk 12 60) {a b : Nat} (ha : a < 12) (hb' : b < 12) (ta : hb th a = true) (tb : hb th b = true) (hab : b < a) : wN md wk a b = wN md wk (dn md a) b + vl wk a := by
  have e := wk2_up (wk := wk) hT ha hb' ta tb hab
  obtain ⟨e1, b1⟩ := wN_e (md := md) hw a b
  obtain ⟨e2, b2⟩ := wN_e (md := md) hw (dn md a) b
  obtain ⟨e3, b3⟩ := vl_e hw (by decide) ha
  rw [e1, e2, e3, nI_add] at e
  exact (nI_eq (by omega) (by omega)).mp e
theorem wN_tri (hT : Tree th md) (hw : Bd wk 12 60) {a : Nat} (ha : a < 12) (ta : hb th a = true) (ha1 : 1 ≤ a) : ∀ v, v < 12 → hb th v = true → wN md wk (dn md a) v ≤ wN md wk a v + vl wk a ∧ wN md wk a v ≤ wN md wk (dn md a) v + vl wk a := by
  intro v
  obtain ⟨q1, q2, q3⟩ := hT.step ha1 ha ta
  induction v using Nat.strongRecOn with
  | _ v ih =>
    intro hv tv
    by_cases h : v < a
    · have := wN_up hT hw ha hv ta tv h
      omega
    · by_cases h2 : v = a
      · subst h2
        have h3 := wN_up hT hw ha (by omega) ta q3 q1
        rw [wN_self] at *
        rw [wN_sym md wk (dn md v) v, h3]
        omega
      · obtain ⟨r1, r2, r3⟩ := hT.step (v := v) (by omega) hv tv
        obtain ⟨i1, i2⟩ := ih _ r1 (by omega) r3
        have h3 := wN_up hT hw hv ha tv ta (by omega)
        have h4 := wN_up hT hw hv (b := dn md a) (by omega) tv q3 (by omega)
        rw [wN_sym md wk (dn md a) v, wN_sym md wk a v, h3, h4, wN_sym md wk (dn md v) a, wN_sym md wk (dn md v) (dn md a)]
        omega
theorem short10 {b x y w dx dy n3 : Nat} {f : Nat → Int32} (hb' : b + 12 ≤ n3) (h3 : n3 < 2 ^ 31) (hx : x < 12) (hy : y < 12) (h1 : f (b + x) = nI dx) (h2 : f (b + y) = nI dy) (b1 : dx ≤ 1000000) (b2 : dy ≤ 1000000) (b3 : w ≤ 60) : f_X2_shorten (nI b) (nI x) (nI y) (nI w) f n3 = some (upd f (b + x) (nI (if dy + w < dx then dy + w else dx))) := by
  unfold f_X2_shorten
  rw [if_neg (nI_pos (by omega)), if_neg (nI_pos (by omega)), nI_add, nI_add, ri_nI (by omega) h3, ri_nI (by omega) h3, lt_eq, wi_nI (by omega) h3, h1, h2, nI_add]
  by_cases q : dy + w < dx
  · rw [if_pos q, if_pos (nI_lt q (by omega))]
  · rw [if_neg q, if_neg (nI_nlt (by omega) (by omega))]
theorem path {w : Nat → Nat} {D : Nat → Nat} (hT : Tree th md) (hw : Bd wk 12 60) (hE : ∀ a, 1 ≤ a → a < 12 → hb th a = true → D a ≤ D (dn md a) + vl wk a ∧ D (dn md a) ≤ D a + vl wk a) : ∀ k x v, x + v ≤ k → x < 12 → v < 12 → hb th x = true → hb th v = true → D x ≤ D v + wN md wk x v := by
  intro k
  induction k with
  | zero =>
    intro x v h hx hv tx tv
    have h1 : x = 0 := by omega
    have h2 : v = 0 := by omega
    subst h1 h2
    omega
  | succ k ih =>
    intro x v h hx hv tx tv
    by_cases q : x = v
    · subst q; omega
    · by_cases q2 : v < x
      · obtain ⟨r1, r2, r3⟩ := hT.step (v := x) (by omega) hx tx
        have h1 := wN_up hT hw hx hv tx tv q2
        have h2 := ih (dn md x) v (by omega) (by omega) hv r3 tv
        have h3 := (hE x (by omega) hx tx).1
        omega
      · obtain ⟨r1, r2, r3⟩ := hT.step (v := v) (by omega) hv tv
        have h1 := wN_up hT hw hv hx tv tx (by omega)
        have h2 := ih x (dn md v) (by omega) hx (by omega) tx r3
        have h3 := (hE v (by omega) hv tv).2
        rw [wN_sym md wk v x, wN_sym md wk (dn md v) x] at h1
        omega
theorem sweep10 (hT : Tree th md) (hd : ∀ v, v < 12 → hb th v = true → td v = md v) (hn : ∀ v, v < 12 → ¬ hb th v = true → td v = -1) (hw : Bd wk 12 60) {b n3 : Nat} (hb' : b + 12 ≤ n3) (h3 : n3 < 2 ^ 31) {f0 : Nat → Int32} {D0 : Nat → Nat} (hD : ∀ x, x < 12 → f0 (b + x) = nI (D0 x) ∧ D0 x ≤ 1000000) : ∃ (f : Nat → Int32) (D : Nat → Nat), f_X2_walkToLids (nI b) td wk f0 n3 = some f ∧ (∀ x, x < 12 → f (b + x) = nI (D x)) ∧ (∀ j, (j < b ∨ b + 12 ≤ j) → f j = f0 j) ∧ ∀ x, x < 12 → hb th x = true → (∀ v, v < 12 → hb th v = true → D x ≤ D0 v + wN md wk x v) ∧ ∃ v, v < 12 ∧ hb th v = true ∧ D0 v + wN md wk x v ≤ D x := by
  unfold f_X2_walkToLids
  obtain ⟨f1, ⟨D1, c1, c2, c3, c4⟩, e1⟩ := its (S := Nat → Int32) 11 (fun i f => ∃ D : Nat → Nat, (∀ x, x < 12 → f (b + x) = nI (D x) ∧ D x ≤ D0 x) ∧ (∀ j, (j < b ∨ b + 12 ≤ j) → f j = f0 j) ∧ (∀ x, x < 12 → hb th x = true → ∃ v, v < 12 ∧ hb th v = true ∧ D0 v + wN md wk x v ≤ D x) ∧ ∀ a, 11 - i < a → a < 12 → hb th a = true → D (dn md a) ≤ D a + vl wk a) (fun N i f => LX2_walkToLids_3 (nI b) td wk n3 (fun _ f4 => LX2_walkToLids_39 (nI b) td wk n3 (fun _ f15 => some f15) FU 1 f4) N (nI (11 - i)) f) (fun f => LX2_walkToLids_39 (nI b) td wk n3 (fun _ f15 => some f15) FU 1 f) (by
    intro N f _
    show LX2_walkToLids_3 (nI b) td wk n3 _ (N + 1) (nI 0) f = _
    rw [LX2_walkToLids_3_s, if_pos (by decide)]) (by
    rintro N i f hi ⟨D, c1, c2, c3, c4⟩
    try dsimp only
    obtain ⟨m, hm⟩ : ∃ m, 11 - i = m + 1 := ⟨10 - i, by omega⟩
    have hm2 : 11 - (i + 1) = m := by omega
    rw [hm] at c4 ⊢
    rw [hm2]
    obtain ⟨w1, w2⟩ := vl_e hw (by decide) (show m + 1 < 12 by omega)
    rw [LX2_walkToLids_3_s, if_neg (nI_nle (by omega) (by omega)), ri_nI (by omega) (by decide), ri_nI (by omega) (by decide)]
    by_cases t : hb th (m + 1) = true
    · obtain ⟨q1, q2, q3⟩ := hT.step (v := m + 1) (by omega) (by omega) t
      obtain ⟨x1, x2⟩ := c1 (m + 1) (by omega)
      obtain ⟨x3, x4⟩ := c1 (dn md (m + 1)) (by omega)
      have y1 := (hD (m + 1) (by omega)).2
      have y2 := (hD (dn md (m + 1)) (by omega)).2
      rw [hd _ (by omega) t, q2, w1, short10 hb' h3 (by omega) (by omega) x3 x1 (by omega) (by omega) w2, sb', lt_eq, pk_m1]
      have le : (if D (m + 1) + vl wk (m + 1) < D (dn md (m + 1)) then D (m + 1) + vl wk (m + 1) else D (dn md (m + 1))) ≤ D (dn md (m + 1)) ∧ (if D (m + 1) + vl wk (m + 1) < D (dn md (m + 1)) then D (m + 1) + vl wk (m + 1) else D (dn md (m + 1))) ≤ D (m + 1) + vl wk (m + 1) := by split <;> omega
      have or : (if D (m + 1) + vl wk (m + 1) < D (dn md (m + 1)) then D (m + 1) + vl wk (m + 1) else D (dn md (m + 1))) = D (dn md (m + 1)) ∨ (if D (m + 1) + vl wk (m + 1) < D (dn md (m + 1)) then D (m + 1) + vl wk (m + 1) else D (dn md (m + 1))) = D (m + 1) + vl wk (m + 1) := by split <;> simp
      generalize (if D (m + 1) + vl wk (m + 1) < D (dn md (m + 1)) then D (m + 1) + vl wk (m + 1) else D (dn md (m + 1))) = z at le or
      refine ⟨_, ⟨fun x => if x = dn md (m + 1) then z else D x, fun x hx => ?_, fun j hj => ?_, fun x hx tx => ?_, fun a h1 h2 ta => ?_⟩, rfl⟩
      · dsimp only
        by_cases q : x = dn md (m + 1)
        · subst q; rw [if_pos rfl, pk_us]; exact ⟨rfl, by omega⟩
        · rw [if_neg q, pk_un (by omega)]; exact c1 x hx
      · rw [pk_un (by omega)]; exact c2 j hj
      · dsimp only
        by_cases q : x = dn md (m + 1)
        · subst q
          rw [if_pos rfl]
          rcases or with o | o
          · rw [o]; exact c3 _ hx tx
          · obtain ⟨v, v1, v2, v3⟩ := c3 (m + 1) (by omega) t
            have := (wN_tri hT hw (by omega) t (by omega) v v1 v2).1
            exact ⟨v, v1, v2, by omega⟩
        · rw [if_neg q]; exact c3 x hx tx
      · dsimp only
        by_cases q : a = m + 1
        · subst q
          rw [if_pos rfl, if_neg (by omega)]; omega
        · have h5 := c4 a (by omega) h2 ta
          rw [if_neg (show ¬ a = dn md (m + 1) by omega)]
          by_cases q2 : dn md a = dn md (m + 1)
          · rw [if_pos q2]; rw [q2] at h5; omega
          · rw [if_neg q2]; exact h5
    · rw [hn _ (by omega) t]
      have e0 : f_X2_shorten (nI b) (-1) (nI (m + 1)) (wk (m + 1)) f n3 = some f := by
        unfold f_X2_shorten
        rw [if_pos (by decide)]
      rw [e0, sb', lt_eq, pk_m1]
      refine ⟨f, ⟨D, c1, c2, c3, fun a h1 h2 ta => ?_⟩, rfl⟩
      by_cases q : a = m + 1
      · subst q; exact absurd ta t
      · exact c4 a (by omega) h2 ta) FU 0 f0 (by omega) (fu_lt (by omega)) ⟨D0, fun x hx => ⟨(hD x hx).1, Nat.le_refl _⟩, fun j _ => rfl, fun x hx tx => ⟨x, hx, tx, by rw [wN_self]; omega⟩, fun a h1 h2 => by omega⟩
  obtain ⟨f2, ⟨D, d1, d2, d3, d4, d5⟩, e2⟩ := its (S := Nat → Int32) 11 (fun i f => ∃ D : Nat → Nat, (∀ x, x < 12 → f (b + x) = nI (D x) ∧ D x ≤ D1 x) ∧ (∀ j, (j < b ∨ b + 12 ≤ j) → f j = f0 j) ∧ (∀ x, x < 12 → hb th x = true → ∃ v, v < 12 ∧ hb th v = true ∧ D0 v + wN md wk x v ≤ D x) ∧ (∀ a, 1 ≤ a → a ≤ i → hb th a = true → D a ≤ D (dn md a) + vl wk a ∧ D (dn md a) ≤ D a + vl wk a) ∧ ∀ a, i < a → a < 12 → D a = D1 a) (fun N i f => LX2_walkToLids_39 (nI b) td wk n3 (fun _ f15 => some f15) N (nI (i + 1)) f) (fun f => some f) (by
    intro N f _
    show LX2_walkToLids_39 (nI b) td wk n3 _ (N + 1) (nI 12) f = _
    rw [LX2_walkToLids_39_s, if_pos (by decide)]) (by
    rintro N i f hi ⟨D, c1', c2', c3', c4', c5'⟩
    try dsimp only
    obtain ⟨w1, w2⟩ := vl_e hw (by decide) (show i + 1 < 12 by omega)
    rw [LX2_walkToLids_39_s, if_neg (lt12 (by omega)), ri_nI (by omega) (by decide), ri_nI (by omega) (by decide)]
    by_cases t : hb th (i + 1) = true
    · obtain ⟨q1, q2, q3⟩ := hT.step (v := i + 1) (by omega) (by omega) t
      obtain ⟨x1, x2⟩ := c1' (i + 1) (by omega)
      obtain ⟨x3, x4⟩ := c1' (dn md (i + 1)) (by omega)
      have y1 := (hD (i + 1) (by omega)).2
      have y2 := (hD (dn md (i + 1)) (by omega)).2
      have y3 := (c1 (i + 1) (by omega)).2
      have y4 := (c1 (dn md (i + 1)) (by omega)).2
      have y5 := c4 (i + 1) (by omega) (by omega) t
      have y6 := c5' (i + 1) (by omega) (by omega)
      rw [hd _ (by omega) t, q2, w1, short10 hb' h3 (by omega) (by omega) x1 x3 (by omega) (by omega) w2, sb', lt_eq, nI_1]
      have or : (if D (dn md (i + 1)) + vl wk (i + 1) < D (i + 1) then D (dn md (i + 1)) + vl wk (i + 1) else D (i + 1)) = D (i + 1) ∨ (if D (dn md (i + 1)) + vl wk (i + 1) < D (i + 1) then D (dn md (i + 1)) + vl wk (i + 1) else D (i + 1)) = D (dn md (i + 1)) + vl wk (i + 1) := by split <;> simp
      have le : (if D (dn md (i + 1)) + vl wk (i + 1) < D (i + 1) then D (dn md (i + 1)) + vl wk (i + 1) else D (i + 1)) ≤ D (i + 1) ∧ (if D (dn md (i + 1)) + vl wk (i + 1) < D (i + 1) then D (dn md (i + 1)) + vl wk (i + 1) else D (i + 1)) ≤ D (dn md (i + 1)) + vl wk (i + 1) := by split <;> omega
      generalize (if D (dn md (i + 1)) + vl wk (i + 1) < D (i + 1) then D (dn md (i + 1)) + vl wk (i + 1) else D (i + 1)) = z at le or
      refine ⟨_, ⟨fun x => if x = i + 1 then z else D x, fun x hx => ?_, fun j hj => ?_, fun x hx tx => ?_, fun a h1 h2 ta => ?_, fun a h1 h2 => ?_⟩, rfl⟩
      · dsimp only
        by_cases q : x = i + 1
        · subst q; rw [if_pos rfl, pk_us]; exact ⟨rfl, by omega⟩
        · rw [if_neg q, pk_un (by omega)]; exact c1' x hx
      · rw [pk_un (by omega)]; exact c2' j hj
      · dsimp only
        by_cases q : x = i + 1
        · subst q
          rw [if_pos rfl]
          rcases or with o | o
          · rw [o]; exact c3' _ hx tx
          · obtain ⟨v, v1, v2, v3⟩ := c3' (dn md (i + 1)) (by omega) q3
            have := (wN_tri hT hw (by omega) t (by omega) v v1 v2).2
            exact ⟨v, v1, v2, by omega⟩
        · rw [if_neg q]; exact c3' x hx tx
      · dsimp only
        by_cases q : a = i + 1
        · subst q
          rw [if_pos rfl, if_neg (show ¬ dn md (i + 1) = i + 1 by omega)]
          refine ⟨by omega, ?_⟩
          rcases or with o | o <;> omega
        · have := (hT.step h1 (by omega) ta).1
          rw [if_neg q, if_neg (show ¬ dn md a = i + 1 by omega)]
          exact c4' a h1 (by omega) ta
      · dsimp only
        rw [if_neg (by omega)]; exact c5' a (by omega) h2
    · rw [hn _ (by omega) t]
      have e0 : f_X2_shorten (nI b) (nI (i + 1)) (-1) (wk (i + 1)) f n3 = some f := by
        unfold f_X2_shorten
        rw [if_neg (nI_pos (by omega)), if_pos (by decide)]
      rw [e0, sb', lt_eq, nI_1]
      refine ⟨f, ⟨D, c1', c2', c3', fun a h1 h2 ta => ?_, fun a h1 h2 => c5' a (by omega) h2⟩, rfl⟩
      by_cases q : a = i + 1
      · subst q; exact absurd ta t
      · exact c4' a h1 (by omega) ta) FU 0 f1 (by omega) (fu_lt (by omega)) ⟨D1, fun x hx => ⟨(c1 x hx).1, Nat.le_refl _⟩, c2, c3, fun a h1 h2 => by omega, fun a _ _ => rfl⟩
  refine ⟨f2, D, e1.trans e2, fun x hx => (d1 x hx).1, d2, fun x hx tx => ⟨fun v hv tv => ?_, d3 x hx tx⟩⟩
  have h1 := path (w := fun _ => 0) (D := D) hT hw (fun a h1 h2 ta => d4 a h1 (by omega) ta) (x + v) x v (Nat.le_refl _) hx hv tx tv
  have h2 := (d1 v hv).2
  have h4 := (c1 v hv).2
  omega
end
