/-! lines done -/
def Pl (td md mi wk lk fr to te fy fn : Nat → Int32) (th li bl : Int32) : Prop := (∃ t, t < 4096 ∧ th = nI t) ∧ Tree th md ∧ (∀ v, v < 12 → hb th v = true → td v = md v) ∧ (∀ v, v < 12 → ¬ hb th v = true → td v = -1) ∧ Bd mi 12 99 ∧ Bd wk 12 60 ∧ wk 0 = 0 ∧ Bd lk 12 99 ∧ Bd fr 12 23 ∧ Bd to 12 23 ∧ (∀ c, c < 4 → ∃ k, 1 ≤ k ∧ k ≤ 9999 ∧ te c = nI k) ∧ Bd fy 4 9 ∧ Bd fn 4 9 ∧ (∃ k, k ≤ 60 ∧ li = nI k) ∧ ∃ k, k ≤ 99 ∧ bl = nI k
theorem Bd.up {f : Nat → Int32} {n B i k : Nat} (h : Bd f n B) (hk : k ≤ B) : Bd (upd f i (nI k)) n B := fun x hx => by
  by_cases q : x = i
  · subst q; exact ⟨k, hk, pk_us⟩
  · rw [pk_un q]; exact h x hx
theorem hb_or {t v x : Nat} (ht : t < 4096) (hv : v < 12) (hx : x < 12) : hb (nI t ||| nI (2 ^ v)) x = (hb (nI t) x || decide (v = x)) := by
  have h1 : 2 ^ v < 2 ^ 12 := Nat.pow_lt_pow_right (by decide) hv
  have h2 : t ||| 2 ^ v < 2 ^ 12 := Nat.or_lt_two_pow ht h1
  rw [or_nI, hb_nI (by omega) (by omega), hb_nI (by omega) (by omega), Nat.testBit_or, Nat.testBit_two_pow]
theorem Pl.lay {td md mi wk lk fr to te fy fn : Nat → Int32} {th li bl : Int32} (h : Pl td md mi wk lk fr to te fy fn th li bl) {v u m w : Nat} (h1 : 1 ≤ v) (h2 : v < 12) (h3 : u < v) (h4 : hb th u = true) (hm : m ≤ 99) (hw : w ≤ 60) : Pl (upd td v (nI u)) (upd md v (nI u)) (upd mi v (nI m)) (upd wk v (nI w)) lk fr to te fy fn (th ||| nI (2 ^ v)) li bl ∧ hb (th ||| nI (2 ^ v)) v = true := by
  obtain ⟨⟨t, ht, rfl⟩, a2, a3, a4, a5, a6, a7, a8⟩ := h
  have e : ∀ x, x < 12 → hb (nI t ||| nI (2 ^ v)) x = (hb (nI t) x || decide (v = x)) := fun x hx => hb_or ht h2 hx
  have p1 : 2 ^ v < 2 ^ 12 := Nat.pow_lt_pow_right (by decide) h2
  have up : ∀ x, x < 12 → hb (nI t) x = true → hb (nI t ||| nI (2 ^ v)) x = true := fun x hx q => by rw [e x hx, q]; rfl
  have dn' : ∀ x, x < 12 → x ≠ v → hb (nI t ||| nI (2 ^ v)) x = true → hb (nI t) x = true := fun x hx q w => by
    rw [e x hx] at w
    have : decide (v = x) = false := by simp; omega
    rw [this, Bool.or_false] at w
    exact w
  refine ⟨⟨⟨t ||| 2 ^ v, Nat.or_lt_two_pow ht p1, or_nI _ _⟩, ⟨up 0 (by omega) a2.1, ?_, fun x hx1 hx2 hx3 => ?_⟩, fun x hx1 hx2 => ?_, fun x hx1 hx2 => ?_, a5.up hm, a6.up hw, ?_, a8⟩, ?_⟩
  · rw [pk_un (by omega)]; exact a2.2.1
  · by_cases q : x = v
    · subst q; exact ⟨u, h3, pk_us, up u (by omega) h4⟩
    · obtain ⟨y, y1, y2, y3⟩ := a2.2.2 x hx1 hx2 (dn' x hx2 q hx3)
      exact ⟨y, y1, by rw [pk_un q]; exact y2, up y (by omega) y3⟩
  · by_cases q : x = v
    · subst q; rw [pk_us, pk_us]
    · rw [pk_un q, pk_un q]; exact a3 x hx1 (dn' x hx1 q hx2)
  · have q : x ≠ v := fun q => hx2 (by rw [e x hx1, q]; simp)
    rw [pk_un q]
    exact a4 x hx1 (fun w => hx2 (up x hx1 w))
  · rw [pk_un (by omega)]; exact a7
  · rw [e v h2]; simp
theorem lay10 {v : Nat} (hv : v < 12) (p1 p2 p3 p4 th : Int32) (td mi wk go : Nat → Int32) : f_X7_lay (nI v) p1 p2 p3 p4 td mi wk go th = some (upd td v p1, upd mi v p2, upd wk v p3, upd go v p4, th ||| nI (2 ^ v)) := by
  unfold f_X7_lay
  rw [shl1 v hv, lt_eq, wi_nI hv (by decide), wi_nI hv (by decide), wi_nI hv (by decide), wi_nI hv (by decide)]
theorem lay11 {v : Nat} (hv : v < 12) (p1 p2 p3 p4 th : Int32) (td mi wk go : Nat → Int32) : f_X11_lay (nI v) p1 p2 p3 p4 td mi wk go th = some (upd td v p1, upd mi v p2, upd wk v p3, upd go v p4, th ||| nI (2 ^ v)) := by
  unfold f_X11_lay
  rw [shl1 v hv, wi_nI hv (by decide), wi_nI hv (by decide), wi_nI hv (by decide), wi_nI hv (by decide), lt_eq]
theorem tell2 {k n rd : Nat → Int32} {i : Nat} (hi : i ≤ 8) (hL : Ln k n rd i) {td md mi wk lk fr to te fy fn : Nat → Int32} {th li bl : Int32} (h : Pl td md mi wk lk fr to te fy fn th li bl) (go fl st rn : Nat → Int32) : ∃ (td' md' mi' wk' go' fl' lk' st' fr' to' rn' te' fy' fn' : Nat → Int32) (th' li' bl' : Int32), Pl td' md' mi' wk' lk' fr' to' te' fy' fn' th' li' bl' ∧ f_X7_tell (k i) (nI i * 5) n td mi wk go fl lk st fr to rn te fy fn th li bl = some (td', mi', wk', go', fl', lk', st', fr', to', rn', te', fy', fn', th', li', bl') ∧ f_X11_run (6 * nI i) rd md mi wk go fl lk st fr to rn te fy fn th li bl = some (md', mi', wk', go', fl', lk', st', fr', to', rn', te', fy', fn', th', li', bl') := by
  obtain ⟨kd, vs, hkd, hok, hk, hr, hv⟩ := hL
  have h0 := h
  obtain ⟨a1, a2, a3, a4, a5, a6, a7, a8, a9, a10, a11, a12, a13, a14, a15⟩ := h
  have w5 : nI i * 5 = nI (5 * i) := by rw [show nI i * 5 = nI (i * 5) from pk_mul i 5, Nat.mul_comm]
  have w6 : (6 : Int32) * nI i = nI (6 * i) := pk_mul 6 i
  have c5 : nI (5 * i) + 5 = nI (5 * i + 5) := nI_add _ 5
  have c1 : nI (5 * i) + 1 = nI (5 * i + 1) := nI_add _ 1
  have c2 : nI (5 * i) + 2 = nI (5 * i + 2) := nI_add _ 2
  have c3 : nI (5 * i) + 3 = nI (5 * i + 3) := nI_add _ 3
  have c4 : nI (5 * i) + 4 = nI (5 * i + 4) := nI_add _ 4
  have d1 : nI (6 * i) + 1 = nI (6 * i + 1) := nI_add _ 1
  have d2 : nI (6 * i) + 2 = nI (6 * i + 2) := nI_add _ 2
  have d3 : nI (6 * i) + 3 = nI (6 * i + 3) := nI_add _ 3
  have d4 : nI (6 * i) + 4 = nI (6 * i + 4) := nI_add _ 4
  have d5 : nI (6 * i) + 5 = nI (6 * i + 5) := nI_add _ 5
  unfold f_X7_tell f_X11_run
  rw [w5, if_neg (nI_pos (by omega)), c5, if_pos (nI_le (by omega) (by decide)), ri_nI (by omega) (by decide), c1, ri_nI (by omega) (by decide), c2, ri_nI (by omega) (by decide), c3, ri_nI (by omega) (by decide), hk, w6, d1, ri_nI (by omega) (by decide), d2, ri_nI (by omega) (by decide), d3, ri_nI (by omega) (by decide), ri_nI (by omega) (by decide), hr, c4, d4, d5]
  rcases hok with ⟨rfl, v, u, m, w, g, rfl, g1⟩ | ⟨rfl, v, a, rfl, g1⟩ | ⟨rfl, v, a, c, rfl, g1⟩ | ⟨rfl, v, a, c, rfl, g1⟩ | ⟨rfl, v, a, rfl, g1⟩ | ⟨rfl, v, a, c, d, rfl, g1⟩ | ⟨rfl, v, rfl, g1⟩ | ⟨rfl, v, rfl, g1⟩
  · obtain ⟨g1, g2, g3, g4, g5, g6, g7⟩ := g1
    have n0 : n (5 * i) = nI v := (hv 0 (by simp)).1
    have r0 : rd (6 * i + 1) = nI v := (hv 0 (by simp)).2
    have n1 : n (5 * i + 1) = nI u := (hv 1 (by simp)).1
    have r1 : rd (6 * i + 2) = nI u := (hv 1 (by simp)).2
    have n2 : n (5 * i + 2) = nI m := (hv 2 (by simp)).1
    have r2 : rd (6 * i + 3) = nI m := (hv 2 (by simp)).2
    have n3 : n (5 * i + 3) = nI w := (hv 3 (by simp)).1
    have r3 : rd (6 * i + 4) = nI w := (hv 3 (by simp)).2
    have n4 : n (5 * i + 4) = nI g := (hv 4 (by simp)).1
    have r4 : rd (6 * i + 5) = nI g := (hv 4 (by simp)).2
    rw [n0, n1, n2, n3, r0, r1, r2, if_pos (show nI 0 = 0 by decide), if_pos (show nI 0 = 0 by decide), ri_nI (by omega) (by decide), n4, has11, sb']
    unfold f_X7_layFrom
    rw [has10, sb', lay10 (by omega), lay11 (by omega)]
    by_cases q : hb th u = true
    · obtain ⟨p1, _⟩ := h0.lay g1 (by omega) g3 q g4 g6
      rw [if_pos q, if_neg one_ne, if_neg one_ne, sb', sb']
      dsimp only
      rw [ri_nI (by omega) (by decide), r3, ri_nI (by omega) (by decide), r4, lay10 (by omega), lay11 (by omega), sb', sb', sb']
      exact ⟨_, _, _, _, _, _, _, _, _, _, _, _, _, _, _, _, _, p1, rfl, rfl⟩
    · have u1 : 1 ≤ u := by
        apply Nat.pos_of_ne_zero
        intro z
        rw [z] at q
        exact q a2.1
      obtain ⟨p1, p2⟩ := h0.lay (v := u) (u := 0) (m := 0) (w := 1) u1 (by omega) u1 a2.1 (by omega) (by omega)
      obtain ⟨p3, _⟩ := p1.lay g1 (by omega) g3 p2 g4 g6
      rw [if_neg q, if_pos rfl, if_pos rfl, sb', sb', sb', sb']
      dsimp only
      rw [ri_nI (by omega) (by decide), r3, ri_nI (by omega) (by decide), r4, lay10 (by omega), lay11 (by omega), sb', sb', sb']
      exact ⟨_, _, _, _, _, _, _, _, _, _, _, _, _, _, _, _, _, p3, rfl, rfl⟩
  · obtain ⟨g1, g2⟩ := g1
    have n0 : n (5 * i) = nI v := (hv 0 (by simp)).1
    have r0 : rd (6 * i + 1) = nI v := (hv 0 (by simp)).2
    have n1 : n (5 * i + 1) = nI a := (hv 1 (by simp)).1
    have r1 : rd (6 * i + 2) = nI a := (hv 1 (by simp)).2
    rw [n0, n1, r0, r1, if_neg (show ¬ nI 1 = 0 by decide), if_pos (show nI 1 = 1 by decide), if_neg (show ¬ nI 1 = 0 by decide), if_pos (show nI 1 = 1 by decide), wi_nI (by omega) (by decide), wi_nI (by omega) (by decide)]
    exact ⟨_, _, _, _, _, _, _, _, _, _, _, _, _, _, _, _, _, h0, rfl, rfl⟩
  · obtain ⟨g1, g2, g3⟩ := g1
    have n0 : n (5 * i) = nI v := (hv 0 (by simp)).1
    have r0 : rd (6 * i + 1) = nI v := (hv 0 (by simp)).2
    have n1 : n (5 * i + 1) = nI a := (hv 1 (by simp)).1
    have r1 : rd (6 * i + 2) = nI a := (hv 1 (by simp)).2
    have n2 : n (5 * i + 2) = nI c := (hv 2 (by simp)).1
    have r2 : rd (6 * i + 3) = nI c := (hv 2 (by simp)).2
    rw [n0, n1, n2, r0, r1, r2, if_neg (show ¬ nI 2 = 0 by decide), if_neg (show ¬ nI 2 = 1 by decide), if_pos (show nI 2 = 2 by decide), if_neg (show ¬ nI 2 = 0 by decide), if_neg (show ¬ nI 2 = 1 by decide), if_pos (show nI 2 = 2 by decide), wi_nI (by omega) (by decide), wi_nI (by omega) (by decide), wi_nI (by omega) (by decide), wi_nI (by omega) (by decide)]
    unfold f_X7_letIn f_X7_openBetween
    rw [wi_nI (by omega) (by decide), wi_nI (by omega) (by decide), wi_nI (by omega) (by decide), wi_nI (by omega) (by decide), sb', sb']
    exact ⟨_, _, _, _, _, _, _, _, _, _, _, _, _, _, _, _, _, ⟨a1, a2, a3, a4, a5, a6, a7, a8.up g2, a9.up (k := 0) (by omega), a10.up (k := 23) (by omega), a11, a12, a13, a14, a15⟩, rfl, rfl⟩
  · obtain ⟨g1, g2, g3, g4⟩ := g1
    have n0 : n (5 * i) = nI v := (hv 0 (by simp)).1
    have r0 : rd (6 * i + 1) = nI v := (hv 0 (by simp)).2
    have n1 : n (5 * i + 1) = nI a := (hv 1 (by simp)).1
    have r1 : rd (6 * i + 2) = nI a := (hv 1 (by simp)).2
    have n2 : n (5 * i + 2) = nI c := (hv 2 (by simp)).1
    have r2 : rd (6 * i + 3) = nI c := (hv 2 (by simp)).2
    unfold f_X7_openBetween
    rw [n0, n1, n2, r0, r1, r2, if_neg (show ¬ nI 3 = 0 by decide), if_neg (show ¬ nI 3 = 1 by decide), if_neg (show ¬ nI 3 = 2 by decide), if_pos (show nI 3 = 3 by decide), if_neg (show ¬ nI 3 = 0 by decide), if_neg (show ¬ nI 3 = 1 by decide), if_neg (show ¬ nI 3 = 2 by decide), if_pos (show nI 3 = 3 by decide), wi_nI (by omega) (by decide), wi_nI (by omega) (by decide), wi_nI (by omega) (by decide), wi_nI (by omega) (by decide), sb']
    exact ⟨_, _, _, _, _, _, _, _, _, _, _, _, _, _, _, _, _, ⟨a1, a2, a3, a4, a5, a6, a7, a8, a9.up g2, a10.up g4, a11, a12, a13, a14, a15⟩, rfl, rfl⟩
  · obtain ⟨g1, g2⟩ := g1
    have n0 : n (5 * i) = nI v := (hv 0 (by simp)).1
    have r0 : rd (6 * i + 1) = nI v := (hv 0 (by simp)).2
    have n1 : n (5 * i + 1) = nI a := (hv 1 (by simp)).1
    have r1 : rd (6 * i + 2) = nI a := (hv 1 (by simp)).2
    rw [n0, n1, r0, r1, if_neg (show ¬ nI 4 = 0 by decide), if_neg (show ¬ nI 4 = 1 by decide), if_neg (show ¬ nI 4 = 2 by decide), if_neg (show ¬ nI 4 = 3 by decide), if_pos (show nI 4 = 4 by decide), if_neg (show ¬ nI 4 = 0 by decide), if_neg (show ¬ nI 4 = 1 by decide), if_neg (show ¬ nI 4 = 2 by decide), if_neg (show ¬ nI 4 = 3 by decide), if_pos (show nI 4 = 4 by decide), wi_nI (by omega) (by decide), wi_nI (by omega) (by decide)]
    exact ⟨_, _, _, _, _, _, _, _, _, _, _, _, _, _, _, _, _, h0, rfl, rfl⟩
  · obtain ⟨g1, g2, g3, g4, g5⟩ := g1
    have n0 : n (5 * i) = nI v := (hv 0 (by simp)).1
    have r0 : rd (6 * i + 1) = nI v := (hv 0 (by simp)).2
    have n1 : n (5 * i + 1) = nI a := (hv 1 (by simp)).1
    have r1 : rd (6 * i + 2) = nI a := (hv 1 (by simp)).2
    have n2 : n (5 * i + 2) = nI c := (hv 2 (by simp)).1
    have r2 : rd (6 * i + 3) = nI c := (hv 2 (by simp)).2
    have n3 : n (5 * i + 3) = nI d := (hv 3 (by simp)).1
    have r3 : rd (6 * i + 4) = nI d := (hv 3 (by simp)).2
    unfold f_X7_giveCup
    rw [n0, n1, n2, n3, r0, r1, r2, if_neg (show ¬ nI 5 = 0 by decide), if_neg (show ¬ nI 5 = 1 by decide), if_neg (show ¬ nI 5 = 2 by decide), if_neg (show ¬ nI 5 = 3 by decide), if_neg (show ¬ nI 5 = 4 by decide), if_pos (show nI 5 = 5 by decide), if_neg (show ¬ nI 5 = 0 by decide), if_neg (show ¬ nI 5 = 1 by decide), if_neg (show ¬ nI 5 = 2 by decide), if_neg (show ¬ nI 5 = 3 by decide), if_neg (show ¬ nI 5 = 4 by decide), if_pos (show nI 5 = 5 by decide), wi_nI (by omega) (by decide), wi_nI (by omega) (by decide), wi_nI (by omega) (by decide), wi_nI (by omega) (by decide), wi_nI (by omega) (by decide), ri_nI (by omega) (by decide), r3, wi_nI (by omega) (by decide), sb']
    have hte : ∀ x, x < 4 → ∃ k, 1 ≤ k ∧ k ≤ 9999 ∧ upd te v (nI a) x = nI k := fun x hx => by
      by_cases q : x = v
      · subst q; exact ⟨a, g2, g3, pk_us⟩
      · rw [pk_un q]; exact a11 x hx
    exact ⟨_, _, _, _, _, _, _, _, _, _, _, _, _, _, _, _, _, ⟨a1, a2, a3, a4, a5, a6, a7, a8, a9, a10, hte, a12.up g4, a13.up g5, a14, a15⟩, rfl, rfl⟩
  · have n0 : n (5 * i) = nI v := (hv 0 (by simp)).1
    have r0 : rd (6 * i + 1) = nI v := (hv 0 (by simp)).2
    rw [n0, r0, if_neg (show ¬ nI 6 = 0 by decide), if_neg (show ¬ nI 6 = 1 by decide), if_neg (show ¬ nI 6 = 2 by decide), if_neg (show ¬ nI 6 = 3 by decide), if_neg (show ¬ nI 6 = 4 by decide), if_neg (show ¬ nI 6 = 5 by decide), if_pos (show nI 6 = 6 by decide), if_neg (show ¬ nI 6 = 0 by decide), if_neg (show ¬ nI 6 = 1 by decide), if_neg (show ¬ nI 6 = 2 by decide), if_neg (show ¬ nI 6 = 3 by decide), if_neg (show ¬ nI 6 = 4 by decide), if_neg (show ¬ nI 6 = 5 by decide), if_pos (show nI 6 = 6 by decide)]
    exact ⟨_, _, _, _, _, _, _, _, _, _, _, _, _, _, _, _, _, ⟨a1, a2, a3, a4, a5, a6, a7, a8, a9, a10, a11, a12, a13, ⟨v, g1, rfl⟩, a15⟩, rfl, rfl⟩
  · have n0 : n (5 * i) = nI v := (hv 0 (by simp)).1
    have r0 : rd (6 * i + 1) = nI v := (hv 0 (by simp)).2
    rw [n0, r0, if_neg (show ¬ nI 7 = 0 by decide), if_neg (show ¬ nI 7 = 1 by decide), if_neg (show ¬ nI 7 = 2 by decide), if_neg (show ¬ nI 7 = 3 by decide), if_neg (show ¬ nI 7 = 4 by decide), if_neg (show ¬ nI 7 = 5 by decide), if_neg (show ¬ nI 7 = 6 by decide), if_neg (show ¬ nI 7 = 0 by decide), if_neg (show ¬ nI 7 = 1 by decide), if_neg (show ¬ nI 7 = 2 by decide), if_neg (show ¬ nI 7 = 3 by decide), if_neg (show ¬ nI 7 = 4 by decide), if_neg (show ¬ nI 7 = 5 by decide), if_neg (show ¬ nI 7 = 6 by decide)]
    exact ⟨_, _, _, _, _, _, _, _, _, _, _, _, _, _, _, _, _, ⟨a1, a2, a3, a4, a5, a6, a7, a8, a9, a10, a11, a12, a13, a14, v, g1, rfl⟩, rfl, rfl⟩
theorem town2 {L : Nat} (hL : L ≤ 9) {k n rd : Nat → Int32} (hLn : ∀ i, i < L → Ln k n rd i) (r tS tE ma mp me : Int32) (ko1 : Int32 → (Nat → Int32) → (Nat → Int32) → (Nat → Int32) → (Nat → Int32) → Int32 → (Nat → Int32) → (Nat → Int32) → Int32 → (Nat → Int32) → (Nat → Int32) → (Nat → Int32) → (Nat → Int32) → Int32 → (Nat → Int32) → (Nat → Int32) → (Nat → Int32) → Option (Int32 × Int32 × Int32 × Int32 × Int32 × (Nat → Int32) × (Nat → Int32) × (Nat → Int32) × (Nat → Int32) × (Nat → Int32) × (Nat → Int32) × (Nat → Int32) × (Nat → Int32) × (Nat → Int32) × (Nat → Int32) × (Nat → Int32) × (Nat → Int32) × (Nat → Int32) × (Nat → Int32) × (Nat → Int32) × Int32 × Int32 × Int32 × Int32 × (Nat → Int32) × (Nat → Int32) × Int32 × Int32 × Int32 × (Nat → Nat → Int32) × (Nat → Nat → Int32) × (Nat → Int32) × (Nat → Int32))) (ko2 : Int32 → Int32 → (Nat → Int32) → (Nat → Int32) → (Nat → Int32) → (Nat → Int32) → (Nat → Int32) → (Nat → Int32) → Int32 → (Nat → Int32) → (Nat → Int32) → (Nat → Int32) → (Nat → Int32) → (Nat → Int32) → Int32 → (Nat → Int32) → (Nat → Int32) → Option (Int32 × (Nat → Int32) × (Nat → Int32) × (Nat → Int32) × (Nat → Int32) × (Nat → Int32) × (Nat → Int32) × (Nat → Int32) × (Nat → Int32) × (Nat → Int32) × (Nat → Int32) × (Nat → Int32) × (Nat → Int32) × (Nat → Int32) × (Nat → Int32) × Int32 × Int32 × Int32 × Int32 × Int32 × Int32 × Int32 × Int32)) : ∀ (d i : Nat), i + d = L → ∀ (td md mi wk go fl lk st fr to rn te fy fn : Nat → Int32) (th li bl : Int32), Pl td md mi wk lk fr to te fy fn th li bl → ∀ N1 N2, d < N1 → d < N2 → ∃ (td' md' mi' wk' go' fl' lk' st' fr' to' rn' te' fy' fn' : Nat → Int32) (th' li' bl' : Int32), Pl td' md' mi' wk' lk' fr' to' te' fy' fn' th' li' bl' ∧ LX10_town_24 (r, nI L, tS, tE, k, n) ko1 N1 (nI i) td fr go fl li lk mi bl wk rn st te th to fn fy = ko1 (nI L) td' fr' go' fl' li' lk' mi' bl' wk' rn' st' te' th' to' fn' fy' ∧ LX11_town_13 (r, rd, nI L, ma, mp, me) ko2 N2 (nI i) bl md fl fn fr fy go li lk mi rn st te th to wk = ko2 (nI L) bl' md' fl' fn' fr' fy' go' li' lk' mi' rn' st' te' th' to' wk' := by
  intro d
  induction d with
  | zero =>
    intro i hi td md mi wk go fl lk st fr to rn te fy fn th li bl h N1 N2 h1 h2
    obtain ⟨n1, rfl⟩ : ∃ n, N1 = n + 1 := ⟨N1 - 1, by omega⟩
    obtain ⟨n2, rfl⟩ : ∃ n, N2 = n + 1 := ⟨N2 - 1, by omega⟩
    have : i = L := by omega
    subst this
    refine ⟨td, md, mi, wk, go, fl, lk, st, fr, to, rn, te, fy, fn, th, li, bl, h, ?_, ?_⟩
    · rw [LX10_town_24_s, if_pos (nI_le (Nat.le_refl _) (by omega))]
    · rw [LX11_town_13_s, if_pos (nI_le (Nat.le_refl _) (by omega))]
  | succ d ih =>
    intro i hi td md mi wk go fl lk st fr to rn te fy fn th li bl h N1 N2 h1 h2
    obtain ⟨n1, rfl⟩ : ∃ n, N1 = n + 1 := ⟨N1 - 1, by omega⟩
    obtain ⟨n2, rfl⟩ : ∃ n, N2 = n + 1 := ⟨N2 - 1, by omega⟩
    obtain ⟨td', md', mi', wk', go', fl', lk', st', fr', to', rn', te', fy', fn', th', li', bl', hP, e1, e2⟩ := tell2 (i := i) (by omega) (hLn i (by omega)) h go fl st rn
    obtain ⟨td2, md2, mi2, wk2', go2, fl2, lk2, st2, fr2, to2, rn2, te2, fy2, fn2, th2, li2, bl2, hP2, z1, z2⟩ := ih (i + 1) (by omega) td' md' mi' wk' go' fl' lk' st' fr' to' rn' te' fy' fn' th' li' bl' hP n1 n2 (by omega) (by omega)
    refine ⟨td2, md2, mi2, wk2', go2, fl2, lk2, st2, fr2, to2, rn2, te2, fy2, fn2, th2, li2, bl2, hP2, ?_, ?_⟩
    · rw [LX10_town_24_s]
      dsimp only
      rw [if_neg (nI_ge (by omega) (by omega)), ri_nI (by omega) (by decide), e1, sb', lt_eq, nI_1]
      exact z1
    · rw [LX11_town_13_s]
      dsimp only
      rw [if_neg (nI_ge (by omega) (by omega)), e2, sb', lt_eq, nI_1]
      exact z2
