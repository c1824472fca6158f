/-! what the plan lacks -/
section
variable {th bl : Int32} {md mi go fl lk st fr to rn te fy fn fd wg : Nat → Int32} {sL sT : Nat → Nat → Int32} {sF sU fC fS fM fT fY : Nat → Int32} {n : Nat}
theorem fitb2 (hT : Tree th md) (hm : Bd mi 12 99) (hfr : Bd fr 12 23) (hto : Bd to 12 23) (hte : ∀ c, c < 4 → ∃ k, 1 ≤ k ∧ k ≤ 9999 ∧ te c = nI k) (hfy : Bd fy 4 9) (hfn : Bd fn 4 9) (hW : Wat th md mi go fl st fr to wg sL sT sF sU) (hF : Fnd fC fS fM fT fY fd n) {v q : Nat} (hq : q < 2 ^ 31) (hv : v < 12) (hbv : hb th v = true) {tL tT : Nat → Nat → Int32} {tF tU : Nat → Int32} (hS : Sm md mi go tL tT tF tU 62 v (nI q) 0 23) : ∀ (d i : Nat), i + d = n → ∃ b : Int32, (b = 0 ∨ b = 1) ∧ ∀ N1 N2 : Nat, d < N1 → d + 1 < N2 → LX6_trialFits_2 rn te wg (nI n) tL tT tF tU fC fS fM fT fY (fun _ => some 1) N1 (nI i) = some b ∧ ∀ ko : Int32 → Int32 → Option Int32, ∃ j : Int32, LX11_lacks_38 (nI q) md mi go fl st fr to rn te fd th (nI n) (nI v) ko N2 1 (nI (5 * i)) = ko b j := by
  intro d
  have hn := hF.1
  induction d with
  | zero =>
    intro i hi
    refine ⟨1, Or.inr rfl, fun N1 N2 h1 h2 => ?_⟩
    obtain ⟨m1, rfl⟩ : ∃ m, N1 = m + 1 := ⟨N1 - 1, by omega⟩
    obtain ⟨m2, rfl⟩ : ∃ m, N2 = m + 1 := ⟨N2 - 1, by omega⟩
    have : i = n := by omega
    subst this
    refine ⟨?_, fun ko => ⟨nI (5 * i), ?_⟩⟩
    · rw [LX6_trialFits_2_s, if_pos (nI_le (Nat.le_refl _) (by omega))]
    · rw [LX11_lacks_38_s, show (5 : Int32) * nI i = nI (5 * i) from pk_mul 5 i, if_pos (nI_le (Nat.le_refl _) (by omega))]
  | succ d ih =>
    intro i hi
    obtain ⟨c, s, m, k, y, hc, hs, hs0, hk, hmk, hy, a1, a2, a3, a4, a5, b1, b2, b3, b4, b5⟩ := hF.2 i (by omega)
    obtain ⟨r, hr, x1, x2⟩ := shT (st := st) (fr := fr) (to := to) (rn := rn) (te := te) hT hm hW.1 hS hq hv hbv hs hs0 hk hmk hc a1 a2 a3 a4
    have f1 : nI (5 * i) + 1 = nI (5 * i + 1) := nI_add _ 1
    have f2 : nI (5 * i) + 2 = nI (5 * i + 2) := nI_add _ 2
    have f3 : nI (5 * i) + 3 = nI (5 * i + 3) := nI_add _ 3
    have f4 : nI (5 * i) + 4 = nI (5 * i + 4) := nI_add _ 4
    have f5 : nI (5 * i) + 5 = nI (5 * (i + 1)) := nI_add _ 5
    have ey : (if y = 1 then (1 : Int32) else 0) = y := by rcases hy with rfl | rfl <;> rfl
    have e1 : ∀ N, LX6_trialFits_2 rn te wg (nI n) tL tT tF tU fC fS fM fT fY (fun _ => some 1) (N + 1) (nI i) = if r = y then LX6_trialFits_2 rn te wg (nI n) tL tT tF tU fC fS fM fT fY (fun _ => some 1) N (nI (i + 1)) else some 0 := by
      intro N
      rw [LX6_trialFits_2_s, if_neg (nI_ge (by omega) (by omega)), ix_nI (by omega) (by decide), x1, sb', ix_nI (by omega) (by decide), a5, lt_eq, nI_1]
    have e2 : ∀ (ko : Int32 → Int32 → Option Int32) (N : Nat), LX11_lacks_38 (nI q) md mi go fl st fr to rn te fd th (nI n) (nI v) ko (N + 1) 1 (nI (5 * i)) = LX11_lacks_38 (nI q) md mi go fl st fr to rn te fd th (nI n) (nI v) ko N (if r = y then 1 else 0) (nI (5 * (i + 1))) := by
      intro ko N
      rw [LX11_lacks_38_s, show (5 : Int32) * nI n = nI (5 * n) from pk_mul 5 n, if_neg (nI_ge (by omega) (by omega)), if_neg one_ne, f1, f2, f3, f4, f5, ri_nI (by omega) (by decide), ri_nI (by omega) (by decide), ri_nI (by omega) (by decide), ri_nI (by omega) (by decide), b1, b2, b3, b4, x2, sb', ri_nI (by omega) (by decide), b5, ib, ey, ib, lt_eq]
    by_cases hry : r = y
    · obtain ⟨b, hb, hA⟩ := ih (i + 1) (by omega)
      refine ⟨b, hb, fun N1 N2 h1 h2 => ?_⟩
      obtain ⟨m1, rfl⟩ : ∃ m, N1 = m + 1 := ⟨N1 - 1, by omega⟩
      obtain ⟨m2, rfl⟩ : ∃ m, N2 = m + 1 := ⟨N2 - 1, by omega⟩
      obtain ⟨z1, z2⟩ := hA m1 m2 (by omega) (by omega)
      refine ⟨?_, fun ko => ?_⟩
      · rw [e1, if_pos hry]; exact z1
      · rw [e2, if_pos hry]; exact z2 ko
    · refine ⟨0, Or.inl rfl, fun N1 N2 h1 h2 => ?_⟩
      obtain ⟨m1, rfl⟩ : ∃ m, N1 = m + 1 := ⟨N1 - 1, by omega⟩
      obtain ⟨m2, rfl⟩ : ∃ m, N2 = m + 1 := ⟨N2 - 1, by omega⟩
      obtain ⟨m3, rfl⟩ : ∃ m, m2 = m + 1 := ⟨m2 - 1, by omega⟩
      refine ⟨?_, fun ko => ⟨nI (5 * (i + 1)), ?_⟩⟩
      · rw [e1, if_neg hry]
      · rw [e2, if_neg hry, LX11_lacks_38_s, if_pos rfl]
        split <;> rfl
/-- promise 19 -/
theorem p_lacks (hT : Tree th md) (hm : Bd mi 12 99) (hfr : Bd fr 12 23) (hto : Bd to 12 23) (hte : ∀ c, c < 4 → ∃ k, 1 ≤ k ∧ k ≤ 9999 ∧ te c = nI k) (hfy : Bd fy 4 9) (hfn : Bd fn 4 9) (hW : Wat th md mi go fl st fr to wg sL sT sF sU) (hF : Fnd fC fS fM fT fY fd n) {td : Nat → Int32} (hd : ∀ v, v < 12 → hb th v = true → td v = md v) (p0 : Int32) : ∃ (r : Int32) (tL tT : Nat → Nat → Int32) (tF tU : Nat → Int32), f_X10_lacks p0 td mi go rn te th wg (nI n) sL sT sF sU fC fS fM fT fY = some (r, tL, tT, tF, tU) ∧ f_X11_lacks p0 md mi go fl st fr to rn te fd th (nI n) = some r ∧ (∀ c, c ≠ 62 → tL c = sL c ∧ tT c = sT c ∧ tF c = sF c ∧ tU c = sU c) := by
  unfold f_X10_lacks f_X11_lacks
  have same : ∀ c, c ≠ 62 → sL c = sL c ∧ sT c = sT c ∧ sF c = sF c ∧ sU c = sU c := fun _ _ => ⟨rfl, rfl, rfl, rfl⟩
  have hrg : (0 ≤ p0 ∧ p0 ≤ 9999) ↔ (¬ p0 < 0 ∧ ¬ (10000 : Int32) ≤ p0) := rg (p := p0) (B := 9999) (by decide)
  rw [inI p0 0 9999 (B := 0) (C := 9999) rfl rfl, sb']
  by_cases h1 : 0 ≤ p0 ∧ p0 ≤ 9999
  · obtain ⟨q, hq, rfl⟩ := rg_of (B := 9999) (by decide) h1
    rw [if_pos h1, if_neg one_ne, if_neg (hrg.mp h1).1, if_pos h1.2]
    unfold f_X6_nodesThatFit
    have key := itp (S := Int32 × (Nat → Int32) × (Nat → Nat → Int32) × (Nat → Nat → Int32) × (Nat → Int32)) (T := Int32) 12 (fun _ s t => s.1 = t ∧ ∀ c, c ≠ 62 → s.2.2.1 c = sL c ∧ s.2.2.2.1 c = sT c ∧ s.2.1 c = sF c ∧ s.2.2.2.2 c = sU c) (fun N i s => LX6_nodesThatFit_4 (nI q) td mi go rn te th wg (nI n) fC fS fM fT fY (fun x7 _ f9 f10 f11 f12 => some (x7, f10, f11, f9, f12)) N s.1 (nI i) s.2.1 s.2.2.1 s.2.2.2.1 s.2.2.2.2) (fun N i t => LX11_lacks_19 (nI q) md mi go fl st fr to rn te fd th (nI n) (fun x5 _ => some x5) N t (nI i)) (fun s => some (s.1, s.2.2.1, s.2.2.2.1, s.2.1, s.2.2.2.2)) (fun t => some t) (by
      intro N s t _
      constructor
      · show LX6_nodesThatFit_4 (nI q) td mi go rn te th wg (nI n) fC fS fM fT fY _ (N + 1) s.1 (nI 12) s.2.1 s.2.2.1 s.2.2.2.1 s.2.2.2.2 = _
        rw [LX6_nodesThatFit_4_s, if_pos (by decide)]
      · show LX11_lacks_19 (nI q) md mi go fl st fr to rn te fd th (nI n) _ (N + 1) t (nI 12) = _
        rw [LX11_lacks_19_s, if_pos (by decide)]) (by
      rintro N i ⟨x, yF, yL, yT, yU⟩ t hi ⟨e, hI⟩
      dsimp only at e hI ⊢
      subst e
      by_cases h : hb th i = true
      · obtain ⟨uL, uT, e1, e2, e3⟩ := fol10 (mi := mi) (go := go) hT hd 62 hi h (nI q) 0 23 yL yT yF yU
        obtain ⟨b, hb, hA⟩ := fitb2 hT hm hfr hto hte hfy hfn hW hF (q := q) (by omega) hi h e3 n 0 (by omega)
        obtain ⟨z1, z2⟩ := hA FU FU (fu_lt (by have := hF.1; omega)) (fu_lt (by have := hF.1; omega))
        obtain ⟨j, z3⟩ := z2 (fun x11 _ => (if x11 = 0 then some (0) else some ((1 <<< (nI i &&& 31))) : Option (Int32)).bind fun q31 => lt ((x ||| q31) : Int32) fun x32 => lt (nI i + 1 : Int32) fun x33 => LX11_lacks_19 (nI q) md mi go fl st fr to rn te fd th (nI n) (fun x5 _ => some x5) N x32 x33)
        refine ⟨((x ||| (if b = 0 then (0 : Int32) else ((1 : Int32) <<< (nI i &&& 31))) : Int32), va_up yF 62 0, uL, uT, va_up yU 62 23), _, ⟨rfl, fun c hc => ?_⟩, ?_, ?_⟩
        · dsimp only
          obtain ⟨w1, w2⟩ := e2 c hc
          obtain ⟨w3, w4, w5, w6⟩ := hI c hc
          rw [w1, w2, w3, w4, va_up_ne _ _ hc, va_up_ne _ _ hc, w5, w6]
          exact ⟨rfl, rfl, rfl, rfl⟩
        · dsimp only
          have z1' : f_X6_trialFits rn te wg (nI n) uL uT (va_up yF 62 0) (va_up yU 62 23) fC fS fM fT fY = some b := z1
          rw [LX6_nodesThatFit_4_s, if_neg (lt12 hi), has10, sb', if_pos h, if_neg one_ne, e1, sb']
          dsimp only
          rw [z1', sb', ib, lt_eq, sb', lt_eq, nI_1]
        · rw [LX11_lacks_19_s, if_neg (lt12 hi), has11, sb', if_pos h]
          refine Eq.trans z3 ?_
          dsimp only
          rw [ib, lt_eq, lt_eq, nI_1]
      · refine ⟨(x, yF, yL, yT, yU), x, ⟨rfl, hI⟩, ?_, ?_⟩
        · dsimp only
          rw [LX6_nodesThatFit_4_s, if_neg (lt12 hi), has10, sb', if_neg h, if_pos rfl, sb', lt_eq, nI_1]
        · rw [LX11_lacks_19_s, if_neg (lt12 hi), has11, sb', if_neg h]
          have e0 : ∀ ko : Int32 → Int32 → Option Int32, LX11_lacks_38 (nI q) md mi go fl st fr to rn te fd th (nI n) (nI i) ko FU 0 0 = ko 0 0 := by
            intro ko
            rw [fu_s, LX11_lacks_38_s, if_pos rfl]
            split <;> rfl
          rw [e0, if_pos rfl, sb', lt_eq, lt_eq, nI_1, Int32.or_zero]) FU 0 (0, sF, sL, sT, sU) 0 (by omega) (fu_lt (by omega)) ⟨rfl, fun c _ => ⟨rfl, rfl, rfl, rfl⟩⟩
    obtain ⟨⟨x, yF, yL, yT, yU⟩, t, ⟨e, hI⟩, k1, k2⟩ := key
    dsimp only at e hI k1 k2
    subst e
    refine ⟨x, yL, yT, yF, yU, ?_, k2, hI⟩
    rw [show LX6_nodesThatFit_4 (nI q) td mi go rn te th wg (nI n) fC fS fM fT fY (fun x7 _ f9 f10 f11 f12 => some (x7, f10, f11, f9, f12)) FU 0 0 sF sL sT sU = some (x, yL, yT, yF, yU) from k1, sb']
  · rw [if_neg h1, if_pos rfl]
    by_cases h2 : p0 < 0
    · rw [if_pos h2]
      exact ⟨_, _, _, _, _, rfl, rfl, same⟩
    · rw [if_neg h2, if_neg (fun q => h1 ⟨Int32.not_lt.mp h2, q⟩)]
      exact ⟨_, _, _, _, _, rfl, rfl, same⟩
theorem Wat.keep {mdx mix gox flx stx frx tox wgx : Nat → Int32} {aL aT bL bT : Nat → Nat → Int32} {aF aU bF bU : Nat → Int32} {thx : Int32} (h : Wat thx mdx mix gox flx stx frx tox wgx aL aT aF aU) (hk : ∀ c, c ≠ 62 → bL c = aL c ∧ bT c = aT c ∧ bF c = aF c ∧ bU c = aU c) : Wat thx mdx mix gox flx stx frx tox wgx bL bT bF bU := by
  refine ⟨h.1, fun v hv hbv => ?_⟩
  obtain ⟨k1, k2, k3, k4⟩ := hk (24 + 3 * v) (by omega)
  exact (h.2 v hv hbv).keep k1 k2 k3 k4
end
