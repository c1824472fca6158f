/-! one line; the whole text -/
section
variable {len : Nat} {b : Nat → Int32}
theorem okv_len {kd : Nat} {vs : List Nat} (h : okv kd vs) : vs.length ≤ 5 := by
  rcases h with ⟨_, v, u, m, w, g, rfl, _⟩ | ⟨_, v, a, rfl, _⟩ | ⟨_, v, a, c, rfl, _⟩ | ⟨_, v, a, c, rfl, _⟩ | ⟨_, v, a, rfl, _⟩ | ⟨_, v, a, c, d, rfl, _⟩ | ⟨_, v, rfl, _⟩ | ⟨_, v, rfl, _⟩ <;> simp
theorem line2 (hl : len ≤ 200) {e s t j : Nat} (hj : j ≤ 8) (hTk : Tk len b e s t) (k n rd : Nat → Int32) (ts : Int32) : (∃ (s1 t1 : Nat) (k1 n1 rd1 : Nat → Int32) (x1 x2 : Int32), s1 ≤ len ∧ f_X5_readLine (nI j) (nI len) ts (nI e) b k n = some (0, nI s1, nI t1, k1, n1) ∧ f_X11_readsLine b rd (nI len) (nI j) (nI t) (nI s) (nI t) = some (0, rd1, nI j, x1, nI s1, x2)) ∨ (∃ (kd : Nat) (vs : List Nat) (e1 s1 t1 : Nat) (x1 : Int32), kd < 8 ∧ okv kd vs ∧ Tk len b e1 s1 t1 ∧ f_X5_readLine (nI j) (nI len) ts (nI e) b k n = some (1, x1, nI e1, upd k j (nI kd), upl n (5 * j) vs) ∧ f_X11_readsLine b rd (nI len) (nI j) (nI t) (nI s) (nI t) = some (1, upl (upd rd (6 * j) (nI kd)) (6 * j + 1) vs, nI (j + 1), nI t1, nI s1, nI t1)) := by
  obtain ⟨g1, g2, g3, g4, g5, g6⟩ := hTk
  unfold f_X5_readLine f_X11_readsLine
  obtain ⟨z, hz, a, c⟩ := kind2 (b := b) g2 (Nat.le_trans g3 hl)
  rw [g5, sb', c]
  dsimp only
  rw [a, sb']
  have w5 : nI j * 5 = nI (5 * j) := by rw [show nI j * 5 = nI (j * 5) from pk_mul j 5, Nat.mul_comm]
  have w6 : (6 : Int32) * nI j = nI (6 * j) := pk_mul 6 j
  rcases hz with rfl | ⟨kd, hkd, rfl⟩
  · rw [if_pos rfl, if_pos rfl]
    exact Or.inl ⟨s, t, k, n, rd, nI t, nI t, by omega, rfl, rfl⟩
  · have kn : ¬ nI kd = -1 := fun w => by
      have := nI_pos' (n := kd) (by omega)
      rw [w] at this
      exact absurd this (by decide)
    obtain ⟨s2, t2, hT2⟩ := tok2 (b := b) hl g3
    rw [if_neg kn, if_neg kn, wi_nI (by omega) (by decide), w5, lt_eq, hT2.2.2.2.2.2, sb', w6, wi_nI (by omega) (by decide)]
    dsimp only
    rcases (show kd = 0 ∨ kd = 1 ∨ kd = 2 ∨ kd = 3 ∨ kd = 4 ∨ kd = 5 ∨ kd = 6 ∨ kd = 7 by omega) with rfl | rfl | rfl | rfl | rfl | rfl | rfl | rfl
    · have e1 : ∀ {R : Type} (G : Int32 → Option R), (ri boundF 9 ((nI 0 + 1)) fun x7 => ri boundF 9 (nI 0) fun x9 => lt ((x7 - x9) : Int32) fun x11 => G x11) = G (nI 5) := fun G => rfl
      rw [e1]
      rcases kd_0 hl hj hT2 (upd k j (nI 0)) n (upd rd (6 * j) (nI 0)) (nI s) with ⟨s3, t3, n3, rd3, b1, b2, b3⟩ | ⟨vs, e3, s3, t3, x3, b1, b2, b3, b4⟩
      · rw [b2, b3, sb']
        exact Or.inl ⟨s3, t3, _, n3, rd3, nI t3, nI t3, b1, rfl, rfl⟩
      · rw [b3, b4, sb']
        dsimp only
        rw [if_neg one_ne, lt_eq, nI_1]
        exact Or.inr ⟨0, vs, e3, s3, t3, x3, by decide, b1, b2, rfl, rfl⟩
    · have e1 : ∀ {R : Type} (G : Int32 → Option R), (ri boundF 9 ((nI 1 + 1)) fun x7 => ri boundF 9 (nI 1) fun x9 => lt ((x7 - x9) : Int32) fun x11 => G x11) = G (nI 2) := fun G => rfl
      rw [e1]
      rcases kd_1 hl hj hT2 (upd k j (nI 1)) n (upd rd (6 * j) (nI 1)) (nI s) with ⟨s3, t3, n3, rd3, b1, b2, b3⟩ | ⟨vs, e3, s3, t3, x3, b1, b2, b3, b4⟩
      · rw [b2, b3, sb']
        exact Or.inl ⟨s3, t3, _, n3, rd3, nI t3, nI t3, b1, rfl, rfl⟩
      · rw [b3, b4, sb']
        dsimp only
        rw [if_neg one_ne, lt_eq, nI_1]
        exact Or.inr ⟨1, vs, e3, s3, t3, x3, by decide, b1, b2, rfl, rfl⟩
    · have e1 : ∀ {R : Type} (G : Int32 → Option R), (ri boundF 9 ((nI 2 + 1)) fun x7 => ri boundF 9 (nI 2) fun x9 => lt ((x7 - x9) : Int32) fun x11 => G x11) = G (nI 3) := fun G => rfl
      rw [e1]
      rcases kd_2 hl hj hT2 (upd k j (nI 2)) n (upd rd (6 * j) (nI 2)) (nI s) with ⟨s3, t3, n3, rd3, b1, b2, b3⟩ | ⟨vs, e3, s3, t3, x3, b1, b2, b3, b4⟩
      · rw [b2, b3, sb']
        exact Or.inl ⟨s3, t3, _, n3, rd3, nI t3, nI t3, b1, rfl, rfl⟩
      · rw [b3, b4, sb']
        dsimp only
        rw [if_neg one_ne, lt_eq, nI_1]
        exact Or.inr ⟨2, vs, e3, s3, t3, x3, by decide, b1, b2, rfl, rfl⟩
    · have e1 : ∀ {R : Type} (G : Int32 → Option R), (ri boundF 9 ((nI 3 + 1)) fun x7 => ri boundF 9 (nI 3) fun x9 => lt ((x7 - x9) : Int32) fun x11 => G x11) = G (nI 3) := fun G => rfl
      rw [e1]
      rcases kd_3 hl hj hT2 (upd k j (nI 3)) n (upd rd (6 * j) (nI 3)) (nI s) with ⟨s3, t3, n3, rd3, b1, b2, b3⟩ | ⟨vs, e3, s3, t3, x3, b1, b2, b3, b4⟩
      · rw [b2, b3, sb']
        exact Or.inl ⟨s3, t3, _, n3, rd3, nI t3, nI t3, b1, rfl, rfl⟩
      · rw [b3, b4, sb']
        dsimp only
        rw [if_neg one_ne, lt_eq, nI_1]
        exact Or.inr ⟨3, vs, e3, s3, t3, x3, by decide, b1, b2, rfl, rfl⟩
    · have e1 : ∀ {R : Type} (G : Int32 → Option R), (ri boundF 9 ((nI 4 + 1)) fun x7 => ri boundF 9 (nI 4) fun x9 => lt ((x7 - x9) : Int32) fun x11 => G x11) = G (nI 2) := fun G => rfl
      rw [e1]
      rcases kd_4 hl hj hT2 (upd k j (nI 4)) n (upd rd (6 * j) (nI 4)) (nI s) with ⟨s3, t3, n3, rd3, b1, b2, b3⟩ | ⟨vs, e3, s3, t3, x3, b1, b2, b3, b4⟩
      · rw [b2, b3, sb']
        exact Or.inl ⟨s3, t3, _, n3, rd3, nI t3, nI t3, b1, rfl, rfl⟩
      · rw [b3, b4, sb']
        dsimp only
        rw [if_neg one_ne, lt_eq, nI_1]
        exact Or.inr ⟨4, vs, e3, s3, t3, x3, by decide, b1, b2, rfl, rfl⟩
    · have e1 : ∀ {R : Type} (G : Int32 → Option R), (ri boundF 9 ((nI 5 + 1)) fun x7 => ri boundF 9 (nI 5) fun x9 => lt ((x7 - x9) : Int32) fun x11 => G x11) = G (nI 4) := fun G => rfl
      rw [e1]
      rcases kd_5 hl hj hT2 (upd k j (nI 5)) n (upd rd (6 * j) (nI 5)) (nI s) with ⟨s3, t3, n3, rd3, b1, b2, b3⟩ | ⟨vs, e3, s3, t3, x3, b1, b2, b3, b4⟩
      · rw [b2, b3, sb']
        exact Or.inl ⟨s3, t3, _, n3, rd3, nI t3, nI t3, b1, rfl, rfl⟩
      · rw [b3, b4, sb']
        dsimp only
        rw [if_neg one_ne, lt_eq, nI_1]
        exact Or.inr ⟨5, vs, e3, s3, t3, x3, by decide, b1, b2, rfl, rfl⟩
    · have e1 : ∀ {R : Type} (G : Int32 → Option R), (ri boundF 9 ((nI 6 + 1)) fun x7 => ri boundF 9 (nI 6) fun x9 => lt ((x7 - x9) : Int32) fun x11 => G x11) = G (nI 1) := fun G => rfl
      rw [e1]
      rcases kd_6 hl hj hT2 (upd k j (nI 6)) n (upd rd (6 * j) (nI 6)) (nI s) with ⟨s3, t3, n3, rd3, b1, b2, b3⟩ | ⟨vs, e3, s3, t3, x3, b1, b2, b3, b4⟩
      · rw [b2, b3, sb']
        exact Or.inl ⟨s3, t3, _, n3, rd3, nI t3, nI t3, b1, rfl, rfl⟩
      · rw [b3, b4, sb']
        dsimp only
        rw [if_neg one_ne, lt_eq, nI_1]
        exact Or.inr ⟨6, vs, e3, s3, t3, x3, by decide, b1, b2, rfl, rfl⟩
    · have e1 : ∀ {R : Type} (G : Int32 → Option R), (ri boundF 9 ((nI 7 + 1)) fun x7 => ri boundF 9 (nI 7) fun x9 => lt ((x7 - x9) : Int32) fun x11 => G x11) = G (nI 1) := fun G => rfl
      rw [e1]
      rcases kd_7 hl hj hT2 (upd k j (nI 7)) n (upd rd (6 * j) (nI 7)) (nI s) with ⟨s3, t3, n3, rd3, b1, b2, b3⟩ | ⟨vs, e3, s3, t3, x3, b1, b2, b3, b4⟩
      · rw [b2, b3, sb']
        exact Or.inl ⟨s3, t3, _, n3, rd3, nI t3, nI t3, b1, rfl, rfl⟩
      · rw [b3, b4, sb']
        dsimp only
        rw [if_neg one_ne, lt_eq, nI_1]
        exact Or.inr ⟨7, vs, e3, s3, t3, x3, by decide, b1, b2, rfl, rfl⟩
/-- a line as both hold it -/
def Ln (k n rd : Nat → Int32) (j : Nat) : Prop := ∃ (kd : Nat) (vs : List Nat), kd < 8 ∧ okv kd vs ∧ k j = nI kd ∧ rd (6 * j) = nI kd ∧ ∀ i, i < vs.length → n (5 * j + i) = nI (vs.getD i 0) ∧ rd (6 * j + 1 + i) = nI (vs.getD i 0)
theorem Ln.new {k n rd : Nat → Int32} {j kd : Nat} {vs : List Nat} (hk : kd < 8) (ho : okv kd vs) : Ln (upd k j (nI kd)) (upl n (5 * j) vs) (upl (upd rd (6 * j) (nI kd)) (6 * j + 1) vs) j :=
  ⟨kd, vs, hk, ho, pk_us, by rw [upl_out _ _ _ _ (Or.inl (by omega)), pk_us], fun i hi => ⟨upl_in _ _ _ _ hi, upl_in _ _ _ _ hi⟩⟩
theorem Ln.old {k n rd : Nat → Int32} {i j kd : Nat} {vs : List Nat} (hij : i < j) (h : Ln k n rd i) : Ln (upd k j (nI kd)) (upl n (5 * j) vs) (upl (upd rd (6 * j) (nI kd)) (6 * j + 1) vs) i := by
  obtain ⟨kd', vs', h1, h2, h3, h4, h5⟩ := h
  have hl := okv_len h2
  refine ⟨kd', vs', h1, h2, ?_, ?_, fun x hx => ⟨?_, ?_⟩⟩
  · rw [pk_un (by omega)]; exact h3
  · rw [upl_out _ _ _ _ (Or.inl (by omega)), pk_un (by omega)]; exact h4
  · rw [upl_out _ _ _ _ (Or.inl (by omega))]; exact (h5 x hx).1
  · rw [upl_out _ _ _ _ (Or.inl (by omega)), pk_un (by omega)]; exact (h5 x hx).2
theorem so59 : so 59 = 0 := by decide
theorem read2 (hl : len ≤ 200) : ∀ d j, j + d = 9 → 1 ≤ d → ∀ (e s t : Nat) (k n rd : Nat → Int32) (ts ln : Int32), Tk len b e s t → (∀ i, i < j → Ln k n rd i) → ∀ N1 N2, d < N1 → d < N2 → ∃ (r L1 ts1 te1 : Int32) (k1 n1 rd1 : Nat → Int32) (rm1 at1 pl1 en1 : Int32), LX5_read_12 (nI len) b (fun x7 f8 x9 f10 x11 x12 => some (x12, x9, x12, x11, f8, f10)) N1 (nI j) k ln n (nI e) ts = some (r, L1, ts1, te1, k1, n1) ∧ ((f_X11_readsLine b rd (nI len) (nI j) (nI t) (nI s) (nI t)).bind fun q2 => if q2.1 = 0 then some (q2.2.2.2.2.1, q2.2.1, q2.2.2.1, q2.2.2.2.1, q2.2.2.2.2.1, q2.2.2.2.2.2) else LX11_fault_26 b (nI len) (fun x9 x10 x11 f12 x13 => some ((-1), f12, x13, x9, x11, x10)) N2 q2.2.2.2.1 q2.2.2.2.2.2 q2.2.2.2.2.1 q2.2.1 q2.2.2.1) = some (r, rd1, rm1, at1, pl1, en1) ∧ (r = -1 → ∃ L, L ≤ 9 ∧ L1 = nI L ∧ rm1 = nI L ∧ ∀ i, i < L → Ln k1 n1 rd1 i) := by
  intro d
  have n1 : ∀ s, s ≤ len → ¬ nI s = -1 := fun s hs w => by
    have := nI_pos' (n := s) (by omega)
    rw [w] at this
    exact absurd this (by decide)
  induction d with
  | zero => intro j _ h; omega
  | succ d ih =>
    intro j hj _ e s t k n rd ts ln hTk hLn N1 N2 h1 h2
    obtain ⟨m1, rfl⟩ : ∃ n, N1 = n + 1 := ⟨N1 - 1, by omega⟩
    obtain ⟨m2, rfl⟩ : ∃ n, N2 = n + 1 := ⟨N2 - 1, by omega⟩
    rw [LX5_read_12_s, if_neg (show ¬ (9 : Int32) ≤ nI j from nI_ge (a := j) (b := 9) (by omega) (by decide))]
    rcases line2 hl (show j ≤ 8 by omega) hTk k n rd ts with ⟨s1, t1, k1, n2, rd1, x1, x2, c1, c2, c3⟩ | ⟨kd, vs, e1, s1, t1, x1, c1, c2, c3, c4, c5⟩
    · rw [c2, c3, sb', sb']
      dsimp only
      rw [if_pos rfl, if_pos rfl]
      exact ⟨_, _, _, _, _, _, _, _, _, _, _, rfl, rfl, fun w => absurd w (n1 s1 c1)⟩
    · rw [c4, c5, sb', sb']
      dsimp only
      rw [if_neg one_ne, if_neg one_ne, lt_eq, c3.2.2.2.2.1, sb', LX11_fault_26_s]
      dsimp only
      have hLn' : ∀ i, i < j + 1 → Ln (upd k j (nI kd)) (upl n (5 * j) vs) (upl (upd rd (6 * j) (nI kd)) (6 * j + 1) vs) i := by
        intro i hi
        by_cases w : i = j
        · subst w; exact Ln.new c1 c2
        · exact (hLn i (by omega)).old (by omega)
      have hs1 : s1 ≤ len := Nat.le_trans c3.2.1 c3.2.2.1
      have ht1 : t1 ≤ len := c3.2.2.1
      by_cases q1 : s1 < len
      · obtain ⟨q2, q3, q4⟩ := c3.2.2.2.1 q1
        rw [if_pos (nI_lt q1 (by omega)), if_neg (nI_ge q1 (by omega)), ri_nI (by omega) (by decide), ri_nI (by omega) (by decide), pk_sub (by omega)]
        by_cases q5 : b s1 = 59
        · have q6 : t1 = s1 + 1 := q4 (by rw [q5]; exact so59)
          have q7 : t1 - s1 = 1 := by omega
          rw [if_pos q5, if_pos q5, q7, if_pos (by decide), nI_1, lt_eq]
          by_cases q8 : j + 1 = 9
          · obtain ⟨m3, rfl⟩ : ∃ n, m1 = n + 1 := ⟨m1 - 1, by omega⟩
            rw [q8, if_pos (by decide), sb', if_pos rfl, sb']
            dsimp only
            rw [if_pos rfl, LX5_read_12_s, if_pos (by decide)]
            exact ⟨_, _, _, _, _, _, _, _, _, _, _, rfl, rfl, fun w => absurd w (n1 s1 hs1)⟩
          · obtain ⟨s2, t2, hT2⟩ := tok2 (b := b) hl ht1
            rw [if_neg (show ¬ (9 : Int32) ≤ nI (j + 1) from nI_ge (a := j + 1) (b := 9) (by omega) (by decide)), sb', if_neg one_ne, hT2.2.2.2.2.2, sb']
            dsimp only
            rw [Option.bind_assoc]
            exact ih (j + 1) (by omega) (by omega) t1 s2 t2 _ _ _ (nI s1) (nI (j + 1)) hT2 hLn' m1 m2 (by omega) (by omega)
        · rw [if_neg q5, if_neg q5]
          have e0 : (if nI (t1 - s1) = 1 then some (0 : Int32) else some 0) = some 0 := by split <;> rfl
          rw [e0, sb', if_pos rfl, sb']
          dsimp only
          rw [if_pos rfl]
          exact ⟨_, _, _, _, _, _, _, _, _, _, _, rfl, rfl, fun w => absurd w (n1 s1 hs1)⟩
      · rw [if_neg (nI_nlt (by omega) (by omega)), if_pos (nI_le (by omega) (by omega)), nI_1]
        exact ⟨_, _, _, _, _, _, _, _, _, _, _, rfl, rfl, fun _ => ⟨j + 1, by omega, rfl, rfl, hLn'⟩⟩
/-- both read the text alike -/
theorem fault2 (hl : len ≤ 200) (ls ts te : Int32) (k n rd : Nat → Int32) (rm at_ pl en : Int32) : ∃ (r L1 ts1 te1 : Int32) (k1 n1 rd1 : Nat → Int32) (rm1 at1 pl1 en1 : Int32), f_X5_read (nI len) ls ts te b k n = some (r, L1, ts1, te1, k1, n1) ∧ f_X11_fault b rd (nI len) rm at_ pl en = some (r, rd1, rm1, at1, pl1, en1) ∧ (r = -1 → ∃ L, L ≤ 9 ∧ L1 = nI L ∧ rm1 = nI L ∧ ∀ i, i < L → Ln k1 n1 rd1 i) := by
  unfold f_X5_read f_X11_fault
  obtain ⟨s, t, hT⟩ := tok2 (b := b) hl (Nat.zero_le len)
  have e : f_X11_token b (nI len) 0 pl en = some (nI t, nI s, nI t) := hT.2.2.2.2.2 pl en
  rw [e, sb']
  exact read2 hl 9 0 (by omega) (by omega) 0 s t k n rd ts 0 hT (fun i hi => by omega) FU FU (fu_lt (by omega)) (fu_lt (by omega))
/-- promise 4 -/
theorem p_fault (hl : len ≤ 200) (ls ts te : Int32) (k n rd : Nat → Int32) (rm at_ pl en : Int32) : ∃ (r L1 ts1 te1 : Int32) (k1 n1 rd1 : Nat → Int32) (rm1 at1 pl1 en1 : Int32), f_X10_fault (nI len) ls ts te b k n = some (r, L1, ts1, te1, k1, n1) ∧ f_X11_fault b rd (nI len) rm at_ pl en = some (r, rd1, rm1, at1, pl1, en1) := by
  obtain ⟨r, L1, ts1, te1, k1, n1, rd1, rm1, at1, pl1, en1, h1, h2, _⟩ := fault2 (b := b) hl ls ts te k n rd rm at_ pl en
  refine ⟨r, L1, ts1, te1, k1, n1, rd1, rm1, at1, pl1, en1, ?_, h2⟩
  unfold f_X10_fault
  rw [h1, sb']
end
