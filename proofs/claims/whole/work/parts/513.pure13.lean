/-! the class thinks of two -/
section
variable {th bl : Int32} {md mi go fl lk st fr to rn te fy fn fd wg : Nat → Int32} {sL sT : Nat → Nat → Int32} {sF sU fC fS fM fT fY : Nat → Int32} {n : Nat}
theorem two10 (hT : Tree th md) (hm : Bd mi 12 99) (hfr : Bd fr 12 23) (hto : Bd to 12 23) (hte : ∀ c, c < 4 → ∃ k, 1 ≤ k ∧ k ≤ 9999 ∧ te c = nI k) (hfy : Bd fy 4 9) (hfn : Bd fn 4 9) (hW : Wat th md mi go fl st fr to wg sL sT sF sU) (hF : Fnd fC fS fM fT fY fd n) (hlk : Bd lk 12 99) {al : Int64} {tw : Nat → Int64} {k2 : Int32} (hk : k2 = 0 ∨ k2 = 1 ∧ C2 th md mi go fl lk st fr to rn te fy fn fd n al tw) : ∃ (al' : Int64) (tw' : Nat → Int64), f_X6_thinkOfTwo lk rn te fy fn (nI (srN th lk)) wg al k2 (nI n) tw sL sT sF sU fC fS fM fT fY = some (al', 1, tw') ∧ C2 th md mi go fl lk st fr to rn te fy fn fd n al' tw' := by
  unfold f_X6_thinkOfTwo
  have hl := sr_lt th lk
  rcases hk with rfl | ⟨rfl, hC⟩
  · rw [if_pos rfl, lt_eq]
    have sym : ∀ i j, i < j → j < 12 → (fun v u => if (srN th lk).testBit v = true ∧ (srN th lk).testBit u = true then gd (f_X11_pair (nI v) (nI u) md mi go fl lk st fr to rn te fy fn fd th (nI n)) else 0) i j = (fun v u => if (srN th lk).testBit v = true ∧ (srN th lk).testBit u = true then gd (f_X11_pair (nI v) (nI u) md mi go fl lk st fr to rn te fy fn fd th (nI n)) else 0) j i := by
      intro i j hij hj
      by_cases h : (srN th lk).testBit i = true ∧ (srN th lk).testBit j = true
      · obtain ⟨b, _, _, h3, h4⟩ := t_2 hT hm hfr hto hte hfy hfn hW hF hlk (sr_bit h.1).1 (sr_bit h.1).2.1 (sr_bit h.2).1 (sr_bit h.2).2.1
        simp only [if_pos h, if_pos (And.intro h.2 h.1)]
        rw [h3, h4]
      · have h' : ¬ ((srN th lk).testBit j = true ∧ (srN th lk).testBit i = true) := fun q => h ⟨q.2, q.1⟩
        simp only [if_neg h, if_neg h']
    have eall := cs_all (fun v u => if (srN th lk).testBit v = true ∧ (srN th lk).testBit u = true then gd (f_X11_pair (nI v) (nI u) md mi go fl lk st fr to rn te fy fn fd th (nI n)) else 0) sym
    obtain ⟨f, hf, e⟩ := its (S := Nat → Int64) 12 (fun h f => ∀ v u, v < h → u < h → v ≠ u → (srN th lk).testBit v = true → (srN th lk).testBit u = true → f (v * 12 + u) = gd (f_X11_pair (nI v) (nI u) md mi go fl lk st fr to rn te fy fn fd th (nI n))) (fun N h f => LX6_thinkOfTwo_15 lk rn te fy fn (nI (srN th lk)) wg (nI n) sL sT sF sU fC fS fM fT fY (fun _ x7 f8 => some (x7, 1, f8)) N (nI h) (cs (fun v u => if (srN th lk).testBit v = true ∧ (srN th lk).testBit u = true then gd (f_X11_pair (nI v) (nI u) md mi go fl lk st fr to rn te fy fn fd th (nI n)) else 0) h) f) (fun f => some (cs (fun v u => if (srN th lk).testBit v = true ∧ (srN th lk).testBit u = true then gd (f_X11_pair (nI v) (nI u) md mi go fl lk st fr to rn te fy fn fd th (nI n)) else 0) 12, 1, f)) (by
      intro N f _
      show LX6_thinkOfTwo_15 lk rn te fy fn (nI (srN th lk)) wg (nI n) sL sT sF sU fC fS fM fT fY _ (N + 1) (nI 12) (cs (fun v u => if (srN th lk).testBit v = true ∧ (srN th lk).testBit u = true then gd (f_X11_pair (nI v) (nI u) md mi go fl lk st fr to rn te fy fn fd th (nI n)) else 0) 12) f = _
      rw [LX6_thinkOfTwo_15_s, if_pos (by decide)]) (by
      intro N h f hh hI
      obtain ⟨g, hg, eg⟩ := its (S := Nat → Int64) h (fun l g => (∀ v u, v < h → u < h → v ≠ u → (srN th lk).testBit v = true → (srN th lk).testBit u = true → g (v * 12 + u) = gd (f_X11_pair (nI v) (nI u) md mi go fl lk st fr to rn te fy fn fd th (nI n))) ∧ ∀ u, u < l → (srN th lk).testBit h = true → (srN th lk).testBit u = true → g (h * 12 + u) = gd (f_X11_pair (nI h) (nI u) md mi go fl lk st fr to rn te fy fn fd th (nI n)) ∧ g (u * 12 + h) = gd (f_X11_pair (nI u) (nI h) md mi go fl lk st fr to rn te fy fn fd th (nI n))) (fun M l g => LX6_thinkOfTwo_23 lk rn te fy fn (nI (srN th lk)) wg (nI n) sL sT sF sU fC fS fM fT fY (nI h) (fun _ x14 f15 => lt (nI h + 1 : Int32) fun x40 => LX6_thinkOfTwo_15 lk rn te fy fn (nI (srN th lk)) wg (nI n) sL sT sF sU fC fS fM fT fY (fun _ x7 f8 => some (x7, 1, f8)) N x40 x14 f15) M (nI l) (sx (cs (fun v u => if (srN th lk).testBit v = true ∧ (srN th lk).testBit u = true then gd (f_X11_pair (nI v) (nI u) md mi go fl lk st fr to rn te fy fn fd th (nI n)) else 0) h) ((fun v u => if (srN th lk).testBit v = true ∧ (srN th lk).testBit u = true then gd (f_X11_pair (nI v) (nI u) md mi go fl lk st fr to rn te fy fn fd th (nI n)) else 0) h) l) g) (fun g => LX6_thinkOfTwo_15 lk rn te fy fn (nI (srN th lk)) wg (nI n) sL sT sF sU fC fS fM fT fY (fun _ x7 f8 => some (x7, 1, f8)) N (nI (h + 1)) (cs (fun v u => if (srN th lk).testBit v = true ∧ (srN th lk).testBit u = true then gd (f_X11_pair (nI v) (nI u) md mi go fl lk st fr to rn te fy fn fd th (nI n)) else 0) (h + 1)) g) (by
        intro M g _
        show LX6_thinkOfTwo_23 lk rn te fy fn (nI (srN th lk)) wg (nI n) sL sT sF sU fC fS fM fT fY (nI h) _ (M + 1) (nI h) (sx (cs (fun v u => if (srN th lk).testBit v = true ∧ (srN th lk).testBit u = true then gd (f_X11_pair (nI v) (nI u) md mi go fl lk st fr to rn te fy fn fd th (nI n)) else 0) h) ((fun v u => if (srN th lk).testBit v = true ∧ (srN th lk).testBit u = true then gd (f_X11_pair (nI v) (nI u) md mi go fl lk st fr to rn te fy fn fd th (nI n)) else 0) h) h) g = _
        rw [LX6_thinkOfTwo_23_s, if_pos (nI_le (Nat.le_refl _) (by omega)), lt_eq, nI_1]
        rfl) (by
        rintro M l g hlh ⟨i1, i2⟩
        by_cases h1 : (srN th lk).testBit h = true ∧ (srN th lk).testBit l = true
        · obtain ⟨b, _, z1, z2, z3⟩ := t_2 hT hm hfr hto hte hfy hfn hW hF hlk (sr_bit h1.1).1 (sr_bit h1.1).2.1 (sr_bit h1.2).1 (sr_bit h1.2).2.1
          refine ⟨vp_updL (vp_updL g (h * 12 + l) (lN b)) (l * 12 + h) (lN b), ⟨fun v u hv hu hne s1 s2 => ?_, fun u hu s1 s2 => ?_⟩, ?_⟩
          · rw [pk_uLn (by omega), pk_uLn (by omega)]
            exact i1 v u hv hu hne s1 s2
          · by_cases hul : u = l
            · subst hul
              rw [pk_uLn (by omega), pk_uLs, pk_uLs, z2, z3]
              exact ⟨rfl, rfl⟩
            · rw [pk_uLn (by omega), pk_uLn (by omega), pk_uLn (by omega), pk_uLn (by omega)]
              exact i2 u (by omega) s1 s2
          · show LX6_thinkOfTwo_23 lk rn te fy fn (nI (srN th lk)) wg (nI n) sL sT sF sU fC fS fM fT fY (nI h) _ (M + 1) (nI l) (sx (cs (fun v u => if (srN th lk).testBit v = true ∧ (srN th lk).testBit u = true then gd (f_X11_pair (nI v) (nI u) md mi go fl lk st fr to rn te fy fn fd th (nI n)) else 0) h) ((fun v u => if (srN th lk).testBit v = true ∧ (srN th lk).testBit u = true then gd (f_X11_pair (nI v) (nI u) md mi go fl lk st fr to rn te fy fn fd th (nI n)) else 0) h) l) g = LX6_thinkOfTwo_23 lk rn te fy fn (nI (srN th lk)) wg (nI n) sL sT sF sU fC fS fM fT fY (nI h) _ M (nI (l + 1)) (sx (cs (fun v u => if (srN th lk).testBit v = true ∧ (srN th lk).testBit u = true then gd (f_X11_pair (nI v) (nI u) md mi go fl lk st fr to rn te fy fn fd th (nI n)) else 0) h) ((fun v u => if (srN th lk).testBit v = true ∧ (srN th lk).testBit u = true then gd (f_X11_pair (nI v) (nI u) md mi go fl lk st fr to rn te fy fn fd th (nI n)) else 0) h) (l + 1)) _
            have w1 : nI h * 12 + nI l = nI (h * 12 + l) := by
              rw [show nI h * 12 = nI (h * 12) from pk_mul h 12, nI_add]
            have w2 : nI l * 12 + nI h = nI (l * 12 + h) := by
              rw [show nI l * 12 = nI (l * 12) from pk_mul l 12, nI_add]
            rw [LX6_thinkOfTwo_23_s, if_neg (nI_ge hlh (by omega)), has10, sb', hb_nI (by omega) (by omega), if_pos h1.1, if_neg one_ne, has10, sb', hb_nI (by omega) (by omega), if_pos h1.2, if_neg one_ne, ri_nI hh (by decide), ri_nI (by omega) (by decide), lt_eq, ix_nI hh (by decide), ix_nI (by omega) (by decide), z1, sb', w1, w2, wl_nI (by omega) (by decide), wl_nI (by omega) (by decide), lt_eq, sb', lt_eq, nI_1 l, sx]
            simp only [if_pos h1]
            rw [z2]
            rfl
        · refine ⟨g, ⟨i1, fun u hu s1 s2 => ?_⟩, ?_⟩
          · by_cases hul : u = l
            · subst hul
              exact absurd ⟨s1, s2⟩ h1
            · exact i2 u (by omega) s1 s2
          · show LX6_thinkOfTwo_23 lk rn te fy fn (nI (srN th lk)) wg (nI n) sL sT sF sU fC fS fM fT fY (nI h) _ (M + 1) (nI l) (sx (cs (fun v u => if (srN th lk).testBit v = true ∧ (srN th lk).testBit u = true then gd (f_X11_pair (nI v) (nI u) md mi go fl lk st fr to rn te fy fn fd th (nI n)) else 0) h) ((fun v u => if (srN th lk).testBit v = true ∧ (srN th lk).testBit u = true then gd (f_X11_pair (nI v) (nI u) md mi go fl lk st fr to rn te fy fn fd th (nI n)) else 0) h) l) g = LX6_thinkOfTwo_23 lk rn te fy fn (nI (srN th lk)) wg (nI n) sL sT sF sU fC fS fM fT fY (nI h) _ M (nI (l + 1)) (sx (cs (fun v u => if (srN th lk).testBit v = true ∧ (srN th lk).testBit u = true then gd (f_X11_pair (nI v) (nI u) md mi go fl lk st fr to rn te fy fn fd th (nI n)) else 0) h) ((fun v u => if (srN th lk).testBit v = true ∧ (srN th lk).testBit u = true then gd (f_X11_pair (nI v) (nI u) md mi go fl lk st fr to rn te fy fn fd th (nI n)) else 0) h) (l + 1)) g
            rw [LX6_thinkOfTwo_23_s, if_neg (nI_ge hlh (by omega)), has10, sb', hb_nI (by omega) (by omega), sx]
            simp only [if_neg h1]
            rw [Int64.add_zero]
            by_cases h2 : (srN th lk).testBit h = true
            · have h3 : ¬ (srN th lk).testBit l = true := fun q => h1 ⟨h2, q⟩
              rw [if_pos h2, if_neg one_ne, has10, sb', hb_nI (by omega) (by omega), if_neg h3, if_pos rfl, sb', lt_eq, nI_1 l]
            · rw [if_neg h2, if_pos rfl, sb', lt_eq, nI_1 l]) FU 0 f (by omega) (fu_lt (by omega)) ⟨hI, fun u hu => by omega⟩
      refine ⟨g, fun v u hv hu hne s1 s2 => ?_, ?_⟩
      · by_cases hvh : v = h
        · subst hvh
          exact (hg.2 u (by omega) s1 s2).1
        · by_cases huh : u = h
          · subst huh
            exact (hg.2 v (by omega) s2 s1).2
          · exact hg.1 v u (by omega) (by omega) hne s1 s2
      · show LX6_thinkOfTwo_15 lk rn te fy fn (nI (srN th lk)) wg (nI n) sL sT sF sU fC fS fM fT fY _ (N + 1) (nI h) (cs (fun v u => if (srN th lk).testBit v = true ∧ (srN th lk).testBit u = true then gd (f_X11_pair (nI v) (nI u) md mi go fl lk st fr to rn te fy fn fd th (nI n)) else 0) h) f = LX6_thinkOfTwo_15 lk rn te fy fn (nI (srN th lk)) wg (nI n) sL sT sF sU fC fS fM fT fY _ N (nI (h + 1)) (cs (fun v u => if (srN th lk).testBit v = true ∧ (srN th lk).testBit u = true then gd (f_X11_pair (nI v) (nI u) md mi go fl lk st fr to rn te fy fn fd th (nI n)) else 0) (h + 1)) g
        rw [LX6_thinkOfTwo_15_s, if_neg (lt12 hh)]
        exact eg) FU 0 tw (by omega) (fu_lt (by omega)) (fun v u hv => by omega)
    refine ⟨_, f, e, fun v u hv hu hne s1 s2 => hf v u hv hu hne s1 s2, eall⟩
  · rw [if_neg one_ne]
    exact ⟨al, tw, rfl, hC⟩
/-- promise 16 -/
theorem p_two (hT : Tree th md) (hm : Bd mi 12 99) (hfr : Bd fr 12 23) (hto : Bd to 12 23) (hte : ∀ c, c < 4 → ∃ k, 1 ≤ k ∧ k ≤ 9999 ∧ te c = nI k) (hfy : Bd fy 4 9) (hfn : Bd fn 4 9) (hW : Wat th md mi go fl st fr to wg sL sT sF sU) (hF : Fnd fC fS fM fT fY fd n) (hlk : Bd lk 12 99) {al : Int64} {tw : Nat → Int64} {k2 : Int32} (hk : k2 = 0 ∨ k2 = 1 ∧ C2 th md mi go fl lk st fr to rn te fy fn fd n al tw) (p0 p1 p2 : Int32) : ∃ (r al' : Int64) (k2' : Int32) (tw' : Nat → Int64), f_X10_two p0 p1 p2 lk rn te fy fn th (nI (srN th lk)) wg al k2 (nI n) tw sL sT sF sU fC fS fM fT fY = some (r, al', k2', tw') ∧ f_X11_two p0 p1 p2 md mi go fl lk st fr to rn te fy fn fd th (nI n) = some r ∧ (k2' = 0 ∨ k2' = 1 ∧ C2 th md mi go fl lk st fr to rn te fy fn fd n al' tw') := by
  unfold f_X10_two f_X11_two
  rcases isrc (th := th) (lk := lk) p0 with ⟨x1, x2⟩ | ⟨v, hv, rfl, hs, hbv, x1, x2⟩
  · rw [x1, x2, sb', sb', if_pos rfl, if_pos rfl]
    exact ⟨_, _, _, _, rfl, rfl, hk⟩
  · rw [x1, x2, sb', sb', if_neg one_ne, if_neg one_ne]
    rcases isrc (th := th) (lk := lk) p1 with ⟨y1, y2⟩ | ⟨u, hu, rfl, hs2, hbu, y1, y2⟩
    · rw [y1, y2, sb', sb', if_pos rfl, if_pos rfl]
      exact ⟨_, _, _, _, rfl, rfl, hk⟩
    · rw [y1, y2, sb', sb', if_neg one_ne, if_neg one_ne]
      by_cases hne : v = u
      · subst hne
        rw [if_pos rfl, if_pos rfl]
        exact ⟨_, _, _, _, rfl, rfl, hk⟩
      · have hne' : ¬ nI v = nI u := fun q => hne ((nI_eq (by omega) (by omega)).mp q)
        rw [if_neg hne', if_neg hne', part10, part11, sb', sb']
        by_cases h1 : 0 ≤ p2 ∧ p2 ≤ 1
        · simp only [if_pos h1, if_neg one_ne]
          obtain ⟨al', tw', e, c1, c2⟩ := two10 hT hm hfr hto hte hfy hfn hW hF hlk hk
          obtain ⟨A, hA, eA⟩ := pg_bd hT hm hfr hto hte hfy hfn hW hF hlk
          have fin : (1 : Int32) = 0 ∨ (1 : Int32) = 1 ∧ C2 th md mi go fl lk st fr to rn te fy fn fd n al' tw' := Or.inr ⟨rfl, c1, c2⟩
          have eal : al' = lN A := c2.trans eA
          rw [e, sb', src11, sb', lt_eq, two11 hT hm hfr hto hte hfy hfn hW hF hlk, eA]
          dsimp only
          rw [eal] at fin ⊢
          by_cases hz : A = 0
          · rw [if_pos ((lgz (by omega)).mpr hz), if_pos ((lgz (by omega)).mpr hz)]
            exact ⟨_, _, _, _, rfl, rfl, fin⟩
          · obtain ⟨b, hb, _, h3, _⟩ := t_2 hT hm hfr hto hte hfy hfn hW hF hlk hv hbv hu hbu
            have w1 : nI v * 12 + nI u = nI (v * 12 + u) := by
              rw [show nI v * 12 = nI (v * 12) from pk_mul v 12, nI_add]
            have etw : tw' (v * 12 + u) = lN b := by
              rw [c1 v u hv hu hne hs hs2, h3]; rfl
            rw [if_neg (fun q => hz ((lgz (by omega)).mp q)), if_neg (fun q => hz ((lgz (by omega)).mp q)), w1, rl_nI (by omega) (by decide), h3, sb', etw]
            obtain ⟨r, z1, z2⟩ := low2 (a := b) (b := A) (by omega) (by omega) (by omega) p2
            rw [z1, z2, sb', sb']
            exact ⟨_, _, _, _, rfl, rfl, fin⟩
        · simp only [if_neg h1]
          exact ⟨_, _, _, _, rfl, rfl, hk⟩
end
