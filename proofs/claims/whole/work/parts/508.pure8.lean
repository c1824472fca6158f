/-! should, found, forget, erase -/
theorem te_pos {te : Nat → Int32} {c : Nat} (h : ∃ k, 1 ≤ k ∧ k ≤ 9999 ∧ te c = nI k) : ¬ te c ≤ 0 := by
  obtain ⟨k, h1, h2, h3⟩ := h
  rw [h3]
  exact nI_nle (by omega) (by omega)
theorem z_told {a : Int32} {A : Option Int32} : (if (0 : Int32) ≤ (-1) then A else some a) = some a := if_neg (by decide)
section
variable {th : Int32} {md mi go fl st fr to rn te wg : Nat → Int32} {sL sT : Nat → Nat → Int32} {sF sU fC fS fM fT fY : Nat → Int32}
/-- one source -/
theorem sh1 (hT : Tree th md) (hm : Bd mi 12 99) (hfr : Bd fr 12 23) (hto : Bd to 12 23) (hW : Wat th md mi go fl st fr to wg sL sT sF sU) {p v s m k c : Nat} (hv : v < 12) (hbv : hb th v = true) (hs : s < 4096) (hs0 : s ≠ 0) (hk : k ≤ 6) (hmk : m + 60 * (k - 1) < 1440) (hc : c < 4) (eC : fC p = nI c) (eS : fS p = nI s) (eM : fM p = nI m) (eT : fT p = nI k) : ∃ r, (r = 0 ∨ r = 1) ∧ f_X8_shouldSayYes p (some (24 + 3 * v)) none rn te wg sL sT sF sU fC fS fM fT = some r ∧ f_X11_shouldBy (nI v) (-1) (-1) (nI c) (nI s) (nI m) (nI k) md mi go fl st fr to rn te th = some r := by
  refine sho hT hW.1 (fun x d => sAm md mi go v x d (st v) (fr v) (to v)) (fun _ _ => 0) _ _ (fun _ _ => rfl) hs hs0 hk hmk hc eC eS eM eT (Or.inl (Option.some_ne_none _)) ?_ ?_
  · intro x d hx _ hd
    exact ⟨amount10 (hW.2 v hv hbv) hx d, rfl⟩
  · intro x d hx _ hd
    refine ⟨?_, z_told⟩
    rw [if_pos (nI_pos' (by omega)), if_neg (by decide), told11 hT hm hfr hto hv hbv hx hd]
    rfl
/-- two sources -/
theorem sh2 (hT : Tree th md) (hm : Bd mi 12 99) (hfr : Bd fr 12 23) (hto : Bd to 12 23) (hW : Wat th md mi go fl st fr to wg sL sT sF sU) {p v u s m k c : Nat} (hv : v < 12) (hbv : hb th v = true) (hu : u < 12) (hbu : hb th u = true) (hs : s < 4096) (hs0 : s ≠ 0) (hk : k ≤ 6) (hmk : m + 60 * (k - 1) < 1440) (hc : c < 4) (eC : fC p = nI c) (eS : fS p = nI s) (eM : fM p = nI m) (eT : fT p = nI k) : ∃ r, (r = 0 ∨ r = 1) ∧ f_X8_shouldSayYes p (some (24 + 3 * v)) (some (24 + 3 * u)) rn te wg sL sT sF sU fC fS fM fT = some r ∧ f_X11_shouldBy (nI v) (nI u) (-1) (nI c) (nI s) (nI m) (nI k) md mi go fl st fr to rn te th = some r := by
  refine sho hT hW.1 (fun x d => sAm md mi go v x d (st v) (fr v) (to v)) (fun x d => sAm md mi go u x d (st u) (fr u) (to u)) _ _ (fun _ _ => rfl) hs hs0 hk hmk hc eC eS eM eT (Or.inl (Option.some_ne_none _)) ?_ ?_
  · intro x d hx _ hd
    exact ⟨amount10 (hW.2 v hv hbv) hx d, amount10 (hW.2 u hu hbu) hx d⟩
  · intro x d hx _ hd
    refine ⟨?_, ?_⟩
    · rw [if_pos (nI_pos' (by omega)), if_neg (by decide), told11 hT hm hfr hto hv hbv hx hd]
      rfl
    · rw [if_pos (nI_pos' (by omega)), told11 hT hm hfr hto hu hbu hx hd]
      rfl
/-- two sources, told the other way round -/
theorem sh3 (hT : Tree th md) (hm : Bd mi 12 99) (hfr : Bd fr 12 23) (hto : Bd to 12 23) (hW : Wat th md mi go fl st fr to wg sL sT sF sU) {p v u s m k c : Nat} (hv : v < 12) (hbv : hb th v = true) (hu : u < 12) (hbu : hb th u = true) (hs : s < 4096) (hs0 : s ≠ 0) (hk : k ≤ 6) (hmk : m + 60 * (k - 1) < 1440) (hc : c < 4) (eC : fC p = nI c) (eS : fS p = nI s) (eM : fM p = nI m) (eT : fT p = nI k) : ∃ r, (r = 0 ∨ r = 1) ∧ f_X8_shouldSayYes p (some (24 + 3 * v)) (some (24 + 3 * u)) rn te wg sL sT sF sU fC fS fM fT = some r ∧ f_X11_shouldBy (nI u) (nI v) (-1) (nI c) (nI s) (nI m) (nI k) md mi go fl st fr to rn te th = some r := by
  refine sho hT hW.1 (fun x d => sAm md mi go v x d (st v) (fr v) (to v)) (fun x d => sAm md mi go u x d (st u) (fr u) (to u)) (fun x d => sAm md mi go u x d (st u) (fr u) (to u)) (fun x d => sAm md mi go v x d (st v) (fr v) (to v)) (fun _ _ => Int32.add_comm _ _) hs hs0 hk hmk hc eC eS eM eT (Or.inl (Option.some_ne_none _)) ?_ ?_
  · intro x d hx _ hd
    exact ⟨amount10 (hW.2 v hv hbv) hx d, amount10 (hW.2 u hu hbu) hx d⟩
  · intro x d hx _ hd
    refine ⟨?_, ?_⟩
    · rw [if_pos (nI_pos' (by omega)), if_neg (by decide), told11 hT hm hfr hto hu hbu hx hd]
      rfl
    · rw [if_pos (nI_pos' (by omega)), told11 hT hm hfr hto hv hbv hx hd]
      rfl
/-- a source that is tried -/
theorem shT (hT : Tree th md) (hm : Bd mi 12 99) (hg : ∀ v, v < 12 → wg v = smS fl (ab th md v) 12) {b p v s m k c q : Nat} (hS : Sm md mi go sL sT sF sU b v (nI q) 0 23) (hq : q < 2 ^ 31) (hv : v < 12) (hbv : hb th v = true) (hs : s < 4096) (hs0 : s ≠ 0) (hk : k ≤ 6) (hmk : m + 60 * (k - 1) < 1440) (hc : c < 4) (eC : fC p = nI c) (eS : fS p = nI s) (eM : fM p = nI m) (eT : fT p = nI k) : ∃ r, (r = 0 ∨ r = 1) ∧ f_X8_shouldSayYes p (some b) none rn te wg sL sT sF sU fC fS fM fT = some r ∧ f_X11_shouldBy (nI v) (-1) (nI q) (nI c) (nI s) (nI m) (nI k) md mi go fl st fr to rn te th = some r := by
  refine sho hT hg (fun x d => sAm md mi go v x d (nI q) 0 23) (fun _ _ => 0) _ _ (fun _ _ => rfl) hs hs0 hk hmk hc eC eS eM eT (Or.inl (Option.some_ne_none _)) ?_ ?_
  · intro x d hx _ hd
    exact ⟨amount10 hS hx d, rfl⟩
  · intro x d hx _ hd
    refine ⟨?_, z_told⟩
    have := comesOf11 (go := go) hT hm (f := 0) (t := 23) hv hbv hx hd (by omega) (by omega) (nI q)
    rw [if_pos (nI_pos' (by omega)), if_pos (nI_pos' hq)]
    rw [show f_X11_comesOf (nI v) (nI q) 0 23 (nI x) (nI d) md mi go = some (sAm md mi go v x d (nI q) 0 23) from this]
    rfl
theorem smS_0 {f : Nat → Int32} {s : Nat} : ∀ n, (∀ x, x < n → s.testBit x = true → f x = 0) → smS f s n = 0
  | 0, _ => rfl
  | n + 1, h => by
    rw [smS, smS_0 n (fun x hx => h x (by omega))]
    by_cases q : s.testBit n = true
    · rw [if_pos q, h n (by omega) q]; rfl
    · rw [if_neg q]; rfl
theorem i0div (y : Int32) : (0 : Int32) / y = 0 := by
  apply Int32.toInt_inj.mp
  rw [Int32.toInt_div]
  simp
/-- no source -/
theorem sh0 (hT : Tree th md) (hg : ∀ v, v < 12 → wg v = smS fl (ab th md v) 12) {p s m k c : Nat} (hte : ∃ k, 1 ≤ k ∧ k ≤ 9999 ∧ te c = nI k) (hs : s < 4096) (hs0 : s ≠ 0) (hk : k ≤ 6) (hmk : m + 60 * (k - 1) < 1440) (hc : c < 4) : f_X8_shouldSayYes p none none rn te wg sL sT sF sU fC fS fM fT = some 0 ∧ f_X11_shouldBy (-1) (-1) (-1) (nI c) (nI s) (nI m) (nI k) md mi go fl st fr to rn te th = some 0 := by
  refine ⟨rfl, ?_⟩
  have hp := pc_pos hs0 hs
  have hp2 := pc_le s 12
  have in11 : ∀ (d : Nat), d < 1440 → ∀ (ko : Int32 → Int32 → Option Int32), LX11_shouldBy_26 (-1) (-1) (-1) (nI s) md mi go fl st fr to rn th (nI d) ko FU 0 0 = ko 0 (nI 12) := by
    intro d hd ko
    refine itv 12 (fun n i => LX11_shouldBy_26 (-1) (-1) (-1) (nI s) md mi go fl st fr to rn th (nI d) ko n 0 (nI i)) _ ?_ ?_ FU 0 (by omega) (fu_lt (by omega))
    · intro n
      show LX11_shouldBy_26 (-1) (-1) (-1) (nI s) md mi go fl st fr to rn th (nI d) ko (n + 1) 0 (nI 12) = _
      rw [LX11_shouldBy_26_s, if_pos (by decide)]
    · intro n i hi
      show LX11_shouldBy_26 (-1) (-1) (-1) (nI s) md mi go fl st fr to rn th (nI d) ko (n + 1) 0 (nI i) = LX11_shouldBy_26 (-1) (-1) (-1) (nI s) md mi go fl st fr to rn th (nI d) ko n 0 (nI (i + 1))
      rw [LX11_shouldBy_26_s, if_neg (lt12 hi), has11, sb', hb_nI (by omega) (by omega)]
      cases hb' : s.testBit i with
      | true =>
        simp only [if_true]
        rw [if_neg one_ne, if_neg (by decide), sb', if_neg (by decide), sb', lt_eq, thin11 hT _ hi hd, sb', lt_eq, sb', lt_eq, nI_1, show (0 : Int32) + 0 = 0 from rfl, show (1000 : Int32) * 0 = 0 from rfl, i0div]
        rfl
      | false =>
        simp only [Bool.false_eq_true, if_false, if_true]
        rw [sb', lt_eq, nI_1]
  unfold f_X11_shouldBy
  refine itv k (fun n i => LX11_shouldBy_3 (-1) (-1) (-1) (nI c) (nI s) (nI m) (nI k) md mi go fl st fr to rn te th (fun _ => some 0) n (nI i)) _ ?_ ?_ FU 0 (by omega) (fu_lt (by omega))
  · intro n
    show LX11_shouldBy_3 (-1) (-1) (-1) (nI c) (nI s) (nI m) (nI k) md mi go fl st fr to rn te th _ (n + 1) (nI k) = _
    rw [LX11_shouldBy_3_s, if_pos (nI_le (Nat.le_refl _) (by omega))]
  · intro n i hi
    have hd : m + i * 60 < 1440 := by omega
    show LX11_shouldBy_3 (-1) (-1) (-1) (nI c) (nI s) (nI m) (nI k) md mi go fl st fr to rn te th (fun _ => some 0) (n + 1) (nI i) = LX11_shouldBy_3 (-1) (-1) (-1) (nI c) (nI s) (nI m) (nI k) md mi go fl st fr to rn te th (fun _ => some 0) n (nI (i + 1))
    rw [LX11_shouldBy_3_s, if_neg (nI_ge hi (by omega)), lt_eq, show (60 : Int32) = nI 60 from rfl, pk_mul, nI_add, Nat.mul_comm 60 i, in11 _ hd, many11 hs, sb', nz_ok (nI_ne0 (by omega) (by omega)), ri_nI hc (by decide), lt_eq, nI_1, i0div, if_pos (Int32.not_le.mp (te_pos hte))]
/-- promise 12 -/
theorem p_should (t : Nat) (ht : th = nI t) (ht2 : t < 4096) (hT : Tree th md) (hm : Bd mi 12 99) (hfr : Bd fr 12 23) (hto : Bd to 12 23) (hW : Wat th md mi go fl st fr to wg sL sT sF sU) (p0 p1 p2 p3 p4 : Int32) : ∃ (r : Int32) (fC' fS' fM' fT' fY' : Nat → Int32), f_X10_should p0 p1 p2 p3 p4 rn te th wg sL sT sF sU fC fS fM fT fY = some (r, fC', fS', fM', fT', fY') ∧ f_X11_should p0 p1 p2 p3 p4 md mi go fl st fr to rn te th = some r ∧ (∀ j, j ≠ 85 → fC' j = fC j ∧ fS' j = fS j ∧ fM' j = fM j ∧ fT' j = fT j ∧ fY' j = fY j) := by
  unfold f_X10_should f_X11_should
  have same : ∀ j, j ≠ 85 → fC j = fC j ∧ fS j = fS j ∧ fM j = fM j ∧ fT j = fT j ∧ fY j = fY j := fun _ _ => ⟨rfl, rfl, rfl, rfl, rfl⟩
  simp only [there10, node11, sb', cup10, cup11]
  by_cases h : isN th p0 = true
  · obtain ⟨v, hv, rfl, hbv⟩ := isN_of h
    simp only [if_pos h, if_neg one_ne]
    by_cases h2 : 0 ≤ p1 ∧ p1 ≤ 3
    · obtain ⟨c, hc, rfl⟩ := cup_of h2
      simp only [if_pos h2, if_neg one_ne]
      rw [ht]
      rcases fill2 ht2 p2 p3 p4 with ⟨e1, e2⟩ | ⟨e1, e2, s, m, k, g1, g2, g3, g4, g5, g6, rfl, rfl, rfl⟩
      · rw [e1, e2, sb', sb', if_pos rfl, if_pos rfl]
        exact ⟨_, fC, fS, fM, fT, fY, rfl, rfl, same⟩
      · rw [e1, e2, sb', sb', if_neg one_ne, if_neg one_ne, ← ht]
        unfold f_X1_put
        rw [sb', ix_nI hv (by decide)]
        obtain ⟨r, _, x1, x2⟩ := sh1 (rn := rn) (te := te) (fC := va_up fC 85 (nI c)) (fS := va_up fS 85 (nI s)) (fM := va_up fM 85 (nI m)) (fT := va_up fT 85 (nI k)) (p := 85) hT hm hfr hto hW hv hbv g1 g2 g5 g6 hc (va_up_self _ _ _) (va_up_self _ _ _) (va_up_self _ _ _) (va_up_self _ _ _)
        rw [x1, x2, sb', sb']
        have same' : ∀ j, j ≠ 85 → va_up fC 85 (nI c) j = fC j ∧ va_up fS 85 (nI s) j = fS j ∧ va_up fM 85 (nI m) j = fM j ∧ va_up fT 85 (nI k) j = fT j ∧ va_up fY 85 1 j = fY j := fun j hj => ⟨va_up_ne _ _ hj, va_up_ne _ _ hj, va_up_ne _ _ hj, va_up_ne _ _ hj, va_up_ne _ _ hj⟩
        by_cases hr : r = 0
        · rw [if_pos hr, if_pos hr]
          exact ⟨_, _, _, _, _, _, rfl, rfl, same'⟩
        · rw [if_neg hr, if_neg hr]
          exact ⟨_, _, _, _, _, _, rfl, rfl, same'⟩
    · simp only [if_neg h2]
      exact ⟨_, fC, fS, fM, fT, fY, rfl, rfl, same⟩
  · simp only [if_neg h]
    exact ⟨_, fC, fS, fM, fT, fY, rfl, rfl, same⟩
end
/-- the cups that were found, on both sides -/
def Fnd (fC fS fM fT fY fd : Nat → Int32) (n : Nat) : Prop := n ≤ 10 ∧ ∀ i, i < n → ∃ (c s m k : Nat) (y : Int32), c < 4 ∧ s < 4096 ∧ s ≠ 0 ∧ k ≤ 6 ∧ m + 60 * (k - 1) < 1440 ∧ (y = 0 ∨ y = 1) ∧ fC (67 + i) = nI c ∧ fS (67 + i) = nI s ∧ fM (67 + i) = nI m ∧ fT (67 + i) = nI k ∧ fY (67 + i) = y ∧ fd (5 * i) = nI c ∧ fd (5 * i + 1) = nI s ∧ fd (5 * i + 2) = nI m ∧ fd (5 * i + 3) = nI k ∧ fd (5 * i + 4) = y
theorem Fnd.keep {fC fS fM fT fY fC' fS' fM' fT' fY' fd : Nat → Int32} {n : Nat} (h : Fnd fC fS fM fT fY fd n) (hk : ∀ j, j ≠ 85 → fC' j = fC j ∧ fS' j = fS j ∧ fM' j = fM j ∧ fT' j = fT j ∧ fY' j = fY j) : Fnd fC' fS' fM' fT' fY' fd n := by
  refine ⟨h.1, fun i hi => ?_⟩
  have hn := h.1
  obtain ⟨k1, k2, k3, k4, k5⟩ := hk (67 + i) (by omega)
  rw [k1, k2, k3, k4, k5]
  exact h.2 i hi
/-- promise 13 -/
theorem p_found {th k1 k2 : Int32} {fC fS fM fT fY fd : Nat → Int32} (t : Nat) (ht : th = nI t) (ht2 : t < 4096) {n : Nat} (hF : Fnd fC fS fM fT fY fd n) (p0 p1 p2 p3 p4 : Int32) (hp4 : p4 = 0 ∨ p4 = 1) : ∃ (r k1' k2' : Int32) (n' : Nat) (fC' fS' fM' fT' fY' fd' : Nat → Int32), f_X10_found p0 p1 p2 p3 p4 th k1 k2 (nI n) fC fS fM fT fY = some (r, k1', k2', nI n', fC', fS', fM', fT', fY') ∧ f_X11_found p0 p1 p2 p3 p4 fd th (nI n) = some (r, fd', nI n') ∧ Fnd fC' fS' fM' fT' fY' fd' n' ∧ ((k1' = k1 ∧ k2' = k2 ∧ n' = n ∧ fd' = fd) ∨ (k1' = 0 ∧ k2' = 0)) := by
  unfold f_X10_found f_X11_found
  simp only [cup10, cup11, sb']
  have hn := hF.1
  by_cases h2 : 0 ≤ p0 ∧ p0 ≤ 3
  · obtain ⟨c, hc, rfl⟩ := cup_of h2
    simp only [if_pos h2, if_neg one_ne]
    rw [ht]
    rcases fill2 ht2 p1 p2 p3 with ⟨e1, e2⟩ | ⟨e1, e2, s, m, k, g1, g2, g3, g4, g5, g6, rfl, rfl, rfl⟩
    · rw [e1, e2, sb', sb', if_pos rfl, if_pos rfl]
      exact ⟨_, _, _, n, _, _, _, _, _, _, rfl, rfl, hF, Or.inl ⟨rfl, rfl, rfl, rfl⟩⟩
    · rw [e1, e2, sb', sb', if_neg one_ne, if_neg one_ne]
      by_cases h3 : n = 10
      · subst h3
        rw [if_neg (by decide), if_pos (by decide)]
        exact ⟨_, _, _, 10, _, _, _, _, _, _, rfl, rfl, hF, Or.inl ⟨rfl, rfl, rfl, rfl⟩⟩
      · have hn9 : n < 10 := by omega
        rw [if_pos (show nI n < 10 from nI_lt (a := n) (b := 10) hn9 (by decide)), if_neg (show ¬ nI n = 10 from fun q => h3 ((nI_eq (b := 10) (by omega) (by decide)).mp q))]
        unfold f_X6_keep f_X6_doubt f_X1_put
        rw [if_neg (show ¬ (10 : Int32) ≤ nI n from nI_ge (a := n) (b := 10) hn9 (by decide)), ix_nI hn9 (by decide)]
        simp only [sb', lt_eq]
        have e5 : (5 : Int32) * nI n = nI (5 * n) := pk_mul 5 n
        have a1 : nI (5 * n) + 1 = nI (5 * n + 1) := nI_add _ 1
        have a2 : nI (5 * n) + 2 = nI (5 * n + 2) := nI_add _ 2
        have a3 : nI (5 * n) + 3 = nI (5 * n + 3) := nI_add _ 3
        have a4 : nI (5 * n) + 4 = nI (5 * n + 4) := nI_add _ 4
        rw [e5, a1, a2, a3, a4, wi_nI (by omega) (by decide), wi_nI (by omega) (by decide), wi_nI (by omega) (by decide), wi_nI (by omega) (by decide), ib, wi_nI (by omega) (by decide), nI_1]
        have ey : (if p4 = 0 then (0 : Int32) else 1) = p4 := by
          rcases hp4 with rfl | rfl <;> rfl
        rw [ey]
        refine ⟨_, _, _, n + 1, _, _, _, _, _, _, rfl, rfl, ⟨by omega, fun i hi => ?_⟩, Or.inr ⟨rfl, rfl⟩⟩
        by_cases hi2 : i = n
        · subst hi2
          refine ⟨c, s, m, k, p4, hc, g1, g2, g5, g6, hp4, va_up_self _ _ _, va_up_self _ _ _, va_up_self _ _ _, va_up_self _ _ _, va_up_self _ _ _, ?_, ?_, ?_, ?_, ?_⟩
          · rw [pk_un (by omega), pk_un (by omega), pk_un (by omega), pk_un (by omega), pk_us]
          · rw [pk_un (by omega), pk_un (by omega), pk_un (by omega), pk_us]
          · rw [pk_un (by omega), pk_un (by omega), pk_us]
          · rw [pk_un (by omega), pk_us]
          · rw [pk_us]
        · have z := hF.2 i (by omega)
          have hj : 67 + i ≠ 67 + n := by omega
          rw [va_up_ne _ _ hj, va_up_ne _ _ hj, va_up_ne _ _ hj, va_up_ne _ _ hj, va_up_ne _ _ hj]
          rw [pk_un (j := 5 * i) (by omega), pk_un (j := 5 * i) (by omega), pk_un (j := 5 * i) (by omega), pk_un (j := 5 * i) (by omega), pk_un (j := 5 * i) (by omega)]
          rw [pk_un (j := 5 * i + 1) (by omega), pk_un (j := 5 * i + 1) (by omega), pk_un (j := 5 * i + 1) (by omega), pk_un (j := 5 * i + 1) (by omega), pk_un (j := 5 * i + 1) (by omega)]
          rw [pk_un (j := 5 * i + 2) (by omega), pk_un (j := 5 * i + 2) (by omega), pk_un (j := 5 * i + 2) (by omega), pk_un (j := 5 * i + 2) (by omega), pk_un (j := 5 * i + 2) (by omega)]
          rw [pk_un (j := 5 * i + 3) (by omega), pk_un (j := 5 * i + 3) (by omega), pk_un (j := 5 * i + 3) (by omega), pk_un (j := 5 * i + 3) (by omega), pk_un (j := 5 * i + 3) (by omega)]
          rw [pk_un (j := 5 * i + 4) (by omega), pk_un (j := 5 * i + 4) (by omega), pk_un (j := 5 * i + 4) (by omega), pk_un (j := 5 * i + 4) (by omega), pk_un (j := 5 * i + 4) (by omega)]
          exact z
  · simp only [if_neg h2]
    exact ⟨_, _, _, n, _, _, _, _, _, _, rfl, rfl, hF, Or.inl ⟨rfl, rfl, rfl, rfl⟩⟩
/-- promises 3 and 14 -/
theorem p_erase (len : Int32) : f_X10_erase len = some (len, 0) ∧ f_X11_erase len = some (len, 0) := ⟨rfl, rfl⟩
theorem p_forget (k1 k2 n : Int32) : f_X10_forget k1 k2 n = some (n, 0, 0, 0) ∧ f_X11_forget n = some (n, 0) := ⟨rfl, rfl⟩
theorem Fnd.zero {fC fS fM fT fY fd : Nat → Int32} : Fnd fC fS fM fT fY fd 0 := ⟨by omega, fun i hi => by omega⟩
