/-! loops in general; what a source sends down -/
theorem itv {R : Type} (B : Nat) (F : Nat → Nat → Option R) (K : Option R) (h0 : ∀ n, F (n + 1) B = K) (h1 : ∀ n i, i < B → F (n + 1) i = F n (i + 1)) : ∀ n i, i ≤ B → B - i < n → F n i = K := by
  intro n
  induction n with
  | zero => intro i _ h; omega
  | succ n ih =>
    intro i hi hn
    by_cases h : i = B
    · subst h; exact h0 n
    · rw [h1 n i (by omega)]
      exact ih (i + 1) (by omega) (by omega)
theorem its {S R : Type} (B : Nat) (I : Nat → S → Prop) (F : Nat → Nat → S → Option R) (ko : S → Option R) (h0 : ∀ n s, I B s → F (n + 1) B s = ko s) (h1 : ∀ n i s, i < B → I i s → ∃ s', I (i + 1) s' ∧ F (n + 1) i s = F n (i + 1) s') : ∀ n i s, i ≤ B → B - i < n → I i s → ∃ s', I B s' ∧ F n i s = ko s' := by
  intro n
  induction n with
  | zero => intro i s _ h; omega
  | succ n ih =>
    intro i s hi hn hI
    by_cases h : i = B
    · subst h; exact ⟨s, hI, h0 n s hI⟩
    · obtain ⟨s1, a, b⟩ := h1 n i s (by omega) hI
      obtain ⟨s2, c, d⟩ := ih (i + 1) s1 (by omega) (by omega) a
      exact ⟨s2, c, by rw [b, d]⟩
/-- two loops that answer alike, each may stop early -/
theorem it2 {R : Type} (B : Nat) (Q : R → Prop) (F G : Nat → Nat → Option R) (h0 : ∀ n, ∃ r, Q r ∧ F (n + 1) B = some r ∧ G (n + 1) B = some r) (h1 : ∀ n i, i < B → (∃ r, Q r ∧ F (n + 1) i = some r ∧ G (n + 1) i = some r) ∨ (F (n + 1) i = F n (i + 1) ∧ G (n + 1) i = G n (i + 1))) : ∀ n i, i ≤ B → B - i < n → ∃ r, Q r ∧ F n i = some r ∧ G n i = some r := by
  intro n
  induction n with
  | zero => intro i _ h; omega
  | succ n ih =>
    intro i hi hn
    by_cases h : i = B
    · subst h; exact h0 n
    · rcases h1 n i (by omega) with h2 | ⟨a, b⟩
      · exact h2
      · rw [a, b]
        exact ih (i + 1) (by omega) (by omega)
/-- two loops with states -/
theorem its2 {S T R : Type} (B : Nat) (I : Nat → S → T → Prop) (F : Nat → Nat → S → Option R) (G : Nat → Nat → T → Option R) (Q : R → Prop) (h0 : ∀ n s t, I B s t → ∃ r, Q r ∧ F (n + 1) B s = some r ∧ G (n + 1) B t = some r) (h1 : ∀ n i s t, i < B → I i s t → (∃ r, Q r ∧ F (n + 1) i s = some r ∧ G (n + 1) i t = some r) ∨ (∃ s' t', I (i + 1) s' t' ∧ F (n + 1) i s = F n (i + 1) s' ∧ G (n + 1) i t = G n (i + 1) t')) : ∀ n i s t, i ≤ B → B - i < n → I i s t → ∃ r, Q r ∧ F n i s = some r ∧ G n i t = some r := by
  intro n
  induction n with
  | zero => intro i s t _ h; omega
  | succ n ih =>
    intro i s t hi hn hI
    by_cases h : i = B
    · subst h; exact h0 n s t hI
    · rcases h1 n i s t (by omega) hI with h2 | ⟨s1, t1, a, b, c⟩
      · exact h2
      · rw [b, c]
        exact ih (i + 1) s1 t1 (by omega) (by omega) a
theorem fu_lt {k : Nat} (h : k < 6000) : k < FU := by rw [fu_s]; omega
theorem lt12 {i : Nat} (h : i < 12) : ¬ (12 : Int32) ≤ nI i := nI_ge (a := i) (b := 12) h (by decide)
def vl (f : Nat → Int32) (i : Nat) : Nat := (f i).toNatClampNeg
def Bd (f : Nat → Int32) (n B : Nat) : Prop := ∀ i, i < n → ∃ k, k ≤ B ∧ f i = nI k
theorem i60 (n : Nat) : nI n * 60 = nI (n * 60) := pk_mul n 60
/-- what goes down a way from v to x, by steps g -/
def cy (md : Nat → Int32) (g : Nat → Int32 → Int32) : Nat → Nat → Nat → Int32 → Int32
  | 0, _, _, a => a
  | k + 1, v, x, a => if v = x ∨ v = 0 then a else cy md g k (dn md v) x (g v a)
theorem cy_st {th : Int32} {md : Nat → Int32} (hT : Tree th md) (g : Nat → Int32 → Int32) (x : Nat) : ∀ (k v : Nat) (a : Int32), v < 12 → hb th v = true → v ≤ k → cy md g (k + 1) v x a = cy md g k v x a
  | 0, v, a, h1, h2, h3 => by
    have : v = 0 := by omega
    subst this
    simp [cy]
  | k + 1, v, a, h1, h2, h3 => by
    rw [cy]
    conv => rhs; rw [cy]
    by_cases hv : v = x ∨ v = 0
    · rw [if_pos hv, if_pos hv]
    · obtain ⟨p, q, r⟩ := hT.step (by omega) h1 h2
      rw [if_neg hv, if_neg hv, cy_st hT g x k (dn md v) (g v a) (by omega) r (by omega)]
theorem cy_x (md : Nat → Int32) (g : Nat → Int32 → Int32) (x : Nat) (a : Int32) : cy md g 12 x x a = a := by
  rw [cy, if_pos (Or.inl rfl)]
theorem cy_s {th : Int32} {md : Nat → Int32} (hT : Tree th md) (g : Nat → Int32 → Int32) {x v : Nat} {a : Int32} (h1 : v < 12) (h2 : hb th v = true) (h3 : 1 ≤ v) (h4 : v ≠ x) : cy md g 12 v x a = cy md g 12 (dn md v) x (g v a) := by
  obtain ⟨p, q, r⟩ := hT.step h3 h1 h2
  rw [cy, if_neg (by omega), cy_st hT g x 11 (dn md v) (g v a) (by omega) r (by omega)]
def gA (go : Nat → Int32) (v : Nat) (a : Int32) : Int32 := a * (100 - go v) / 100
def gT (mi : Nat → Int32) (v : Nat) (t : Int32) : Int32 := t + mi v
/-- the place x on the way of v -/
theorem way_s {th : Int32} {md : Nat → Int32} (hT : Tree th md) {x v : Nat} (h1 : v < 12) (h2 : hb th v = true) (h3 : 1 ≤ v) (h4 : v ≠ x) : (wy md v).testBit x = (wy md (dn md v)).testBit x := by
  rw [wy_s hT h3 h1 h2, Nat.testBit_or, Nat.testBit_two_pow]
  have : decide (v = x) = false := by simp [h4]
  rw [this, Bool.false_or]
theorem way_0 {md : Nat → Int32} {x : Nat} (h : (wy md 0).testBit x = true) : x = 0 := by
  rw [wy_0] at h
  by_cases hx : x = 0
  · exact hx
  · rw [show (1 : Nat) = 2 ^ 0 from rfl, Nat.testBit_two_pow] at h
    simp at h; omega
theorem way_up {th : Int32} {md : Nat → Int32} (hT : Tree th md) {v : Nat} (h1 : v < 12) (h2 : hb th v = true) (h3 : 1 ≤ v) : (wy md (dn md v)).testBit v = false := by
  obtain ⟨p, q, r⟩ := hT.step h3 h1 h2
  cases hz : (wy md (dn md v)).testBit v with
  | false => rfl
  | true => have := ((wy_ind hT _ (by omega) r).1 v hz).1; omega
theorem cy_T {th : Int32} {md mi : Nat → Int32} (hT : Tree th md) (hm : Bd mi 12 99) (x : Nat) : ∀ (k v t : Nat), v < 12 → hb th v = true → ∃ t', t' ≤ t + 99 * v ∧ cy md (gT mi) k v x (nI t) = nI t'
  | 0, v, t, h1, h2 => ⟨t, by omega, rfl⟩
  | k + 1, v, t, h1, h2 => by
    rw [cy]
    by_cases hv : v = x ∨ v = 0
    · rw [if_pos hv]; exact ⟨t, by omega, rfl⟩
    · obtain ⟨p, q, r⟩ := hT.step (by omega) h1 h2
      obtain ⟨m, hm1, hm2⟩ := hm v h1
      rw [if_neg hv]
      obtain ⟨t', a, b⟩ := cy_T hT hm x k (dn md v) (t + m) (by omega) r
      refine ⟨t', by omega, ?_⟩
      rw [← b]
      unfold gT
      rw [hm2, nI_add]
theorem fol_loop {th : Int32} {md td mi go : Nat → Int32} (hT : Tree th md) (hd : ∀ v, v < 12 → hb th v = true → td v = md v) (b : Nat) (A B : Nat → Int32) : ∀ (v : Nat), v < 12 → hb th v = true → ∀ (n j : Nat) (a t : Int32) (fL fT : Nat → Nat → Int32), v + 1 < n → j + v < 12 → ∃ fL' fT' : Nat → Nat → Int32, LX4_follow_56 b td mi go (fun _ _ _ _ f g => some (f, g, A, B)) n a t (nI v) (nI j) fL fT = some (fL', fT', A, B) ∧ (∀ c, c ≠ b → fL' c = fL c ∧ fT' c = fT c) ∧ ∀ x, x < 12 → fL' b x = (if (wy md v).testBit x then cy md (gA go) 12 v x a else fL b x) ∧ fT' b x = (if (wy md v).testBit x then cy md (gT mi) 12 v x t else fT b x) := by
  intro v
  induction v using Nat.strongRecOn with
  | _ v ih =>
    intro h1 h2 n j a t fL fT hn hj
    obtain ⟨m, rfl⟩ : ∃ m, n = m + 1 := ⟨n - 1, by omega⟩
    rw [LX4_follow_56_s, if_neg (lt12 (by omega)), if_neg (nI_pos (by omega)), wi_nI h1 (by decide), wi_nI h1 (by decide), ri_nI h1 (by decide), nz_ok (by decide), lt_eq, ri_nI h1 (by decide), lt_eq, ri_nI h1 (by decide), lt_eq, nI_1, hd v h1 h2]
    by_cases hv : v = 0
    · subst hv
      obtain ⟨m', rfl⟩ : ∃ m', m = m' + 1 := ⟨m - 1, by omega⟩
      refine ⟨va_up fL b (upd (fL b) 0 a), va_up fT b (upd (fT b) 0 t), ?_, fun c hc => ⟨va_up_ne _ _ hc, va_up_ne _ _ hc⟩, fun x hx => ?_⟩
      · rw [LX4_follow_56_s, hT.2.1]
        split <;> rfl
      · rw [va_up_self, va_up_self]
        by_cases h : x = 0
        · subst h; rw [pk_us, pk_us, cy_x, cy_x, wy_0]; exact ⟨rfl, rfl⟩
        · have : ¬ (wy md 0).testBit x = true := fun q => h (way_0 q)
          rw [pk_un h, pk_un h, if_neg this, if_neg this]; exact ⟨rfl, rfl⟩
    · obtain ⟨q1, q2, q3⟩ := hT.step (by omega) h1 h2
      rw [q2]
      obtain ⟨fL', fT', e1, e2, e3⟩ := ih _ q1 (by omega) q3 m (j + 1) (gA go v a) (gT mi v t) (va_up fL b (upd (fL b) v a)) (va_up fT b (upd (fT b) v t)) (by omega) (by omega)
      refine ⟨fL', fT', e1, fun c hc => ?_, fun x hx => ?_⟩
      · obtain ⟨z1, z2⟩ := e2 c hc
        rw [z1, z2]
        exact ⟨va_up_ne _ _ hc, va_up_ne _ _ hc⟩
      · obtain ⟨z1, z2⟩ := e3 x hx
        rw [z1, z2, va_up_self, va_up_self]
        by_cases h : x = v
        · subst h
          have w1 := way_up hT h1 h2 (by omega)
          have w2 := (wy_ind hT x h1 h2).2.1
          rw [w1, w2, pk_us, pk_us, cy_x, cy_x]; exact ⟨rfl, rfl⟩
        · rw [way_s hT h1 h2 (by omega) (fun q => h q.symm), pk_un h, pk_un h, cy_s hT (gA go) h1 h2 (by omega) (fun q => h q.symm), cy_s hT (gT mi) h1 h2 (by omega) (fun q => h q.symm)]
          exact ⟨rfl, rfl⟩
theorem fol0_loop (b : Nat) {R : Type} (ko : (Nat → Nat → Int32) → (Nat → Nat → Int32) → Option ((Nat → Nat → Int32) × (Nat → Nat → Int32) × (Nat → Int32) × (Nat → Int32))) (fL fT : Nat → Nat → Int32) : ∃ s : (Nat → Nat → Int32) × (Nat → Nat → Int32), ((∀ c, c ≠ b → s.1 c = fL c ∧ s.2 c = fT c) ∧ ∀ x, x < 12 → s.1 b x = 0 ∧ s.2 b x = 0) ∧ LX4_follow_15 b (fun _ f g => ko f g) FU 0 fL fT = ko s.1 s.2 := by
  refine its (S := (Nat → Nat → Int32) × (Nat → Nat → Int32)) 12 (fun i s => (∀ c, c ≠ b → s.1 c = fL c ∧ s.2 c = fT c) ∧ ∀ x, x < i → s.1 b x = 0 ∧ s.2 b x = 0) (fun n i s => LX4_follow_15 b (fun _ f g => ko f g) n (nI i) s.1 s.2) (fun s => ko s.1 s.2) ?_ ?_ FU 0 (fL, fT) (by omega) (fu_lt (by omega)) ⟨fun c _ => ⟨rfl, rfl⟩, fun x hx => by omega⟩
  · intro n s _
    show LX4_follow_15 b _ (n + 1) (nI 12) s.1 s.2 = _
    rw [LX4_follow_15_s, if_pos (by decide)]
  · intro n i s hi hI
    refine ⟨(va_up s.1 b (upd (s.1 b) i 0), va_up s.2 b (upd (s.2 b) i 0)), ⟨fun c hc => ?_, fun x hx => ?_⟩, ?_⟩
    · dsimp only
      rw [va_up_ne _ _ hc, va_up_ne _ _ hc]; exact hI.1 c hc
    · dsimp only
      rw [va_up_self, va_up_self]
      by_cases h : x = i
      · subst h; rw [pk_us, pk_us]; exact ⟨rfl, rfl⟩
      · rw [pk_un h, pk_un h]; exact hI.2 x (by omega)
    · show LX4_follow_15 b _ (n + 1) (nI i) s.1 s.2 = LX4_follow_15 b _ n (nI (i + 1)) _ _
      rw [LX4_follow_15_s, if_neg (lt12 hi), wi_nI hi (by decide), wi_nI hi (by decide), lt_eq, nI_1]
/-- a stream that holds what v sends -/
def Sm (md mi go : Nat → Int32) (sL sT : Nat → Nat → Int32) (sF sU : Nat → Int32) (b v : Nat) (s f t : Int32) : Prop := sF b = f ∧ sU b = t ∧ ∀ x, x < 12 → sL b x = (if (wy md v).testBit x then cy md (gA go) 12 v x s else 0) ∧ sT b x = (if (wy md v).testBit x then cy md (gT mi) 12 v x 0 else 0)
theorem fol10 {th : Int32} {md td mi go : Nat → Int32} (hT : Tree th md) (hd : ∀ v, v < 12 → hb th v = true → td v = md v) (b : Nat) {v : Nat} (hv : v < 12) (hbv : hb th v = true) (s f t : Int32) (sL sT : Nat → Nat → Int32) (sF sU : Nat → Int32) : ∃ sL' sT' : Nat → Nat → Int32, f_X4_follow b (nI v) s f t td mi go sL sT sF sU = some (sL', sT', va_up sF b f, va_up sU b t) ∧ (∀ c, c ≠ b → sL' c = sL c ∧ sT' c = sT c) ∧ Sm md mi go sL' sT' (va_up sF b f) (va_up sU b t) b v s f t := by
  unfold f_X4_follow
  obtain ⟨z, ⟨a1, a2⟩, a3⟩ := fol0_loop (R := Unit) b (fun f5 f6 => LX4_follow_56 b td mi go (fun _ _ _ _ f25 f26 => some (f25, f26, (va_up sF b f), (va_up sU b t))) FU s 0 (nI v) 0 f5 f6) sL sT
  obtain ⟨fL, fT, e1, e2, e3⟩ := fol_loop (mi := mi) (go := go) hT hd b (va_up sF b f) (va_up sU b t) v hv hbv FU 0 s 0 z.1 z.2 (fu_lt (by omega)) (by omega)
  refine ⟨fL, fT, a3.trans e1, fun c hc => ?_, va_up_self _ _ _, va_up_self _ _ _, fun x hx => ?_⟩
  · obtain ⟨y1, y2⟩ := e2 c hc
    obtain ⟨y3, y4⟩ := a1 c hc
    exact ⟨y1.trans y3, y2.trans y4⟩
  · obtain ⟨y1, y2⟩ := e3 x hx
    obtain ⟨y3, y4⟩ := a2 x hx
    rw [y1, y2, y3, y4]
    exact ⟨rfl, rfl⟩
theorem Sm.keep {md mi go : Nat → Int32} {sL sT sL' sT' : Nat → Nat → Int32} {sF sU sF' sU' : Nat → Int32} {b v : Nat} {s f t : Int32} (h : Sm md mi go sL sT sF sU b v s f t) (h1 : sL' b = sL b) (h2 : sT' b = sT b) (h3 : sF' b = sF b) (h4 : sU' b = sU b) : Sm md mi go sL' sT' sF' sU' b v s f t := by
  unfold Sm at *
  rw [h1, h2, h3, h4]
  exact h
/-- what is there of it in a minute -/
def amt (x f t L : Int32) : Int32 := if x < f * 60 then 0 else if x < (t + 1) * 60 then L else 0
theorem amt_0 (x f t : Int32) : amt x f t 0 = 0 := by unfold amt; split <;> (try split) <;> rfl
def sAm (md mi go : Nat → Int32) (v x m : Nat) (s f t : Int32) : Int32 := if (wy md v).testBit x then amt (nI m - cy md (gT mi) 12 v x 0) f t (cy md (gA go) 12 v x s) else 0
theorem amount10 {md mi go : Nat → Int32} {sL sT : Nat → Nat → Int32} {sF sU : Nat → Int32} {b v : Nat} {s f t : Int32} (h : Sm md mi go sL sT sF sU b v s f t) {x : Nat} (hx : x < 12) (m : Nat) : f_X4_amountAt b (nI x) (nI m) sL sT sF sU = some (sAm md mi go v x m s f t) := by
  unfold f_X4_amountAt
  obtain ⟨h1, h2, h3⟩ := h
  obtain ⟨h4, h5⟩ := h3 x hx
  rw [ri_nI hx (by decide), lt_eq, ri_nI hx (by decide), h1, h2, h4, h5]
  unfold sAm
  by_cases hw : (wy md v).testBit x = true
  · simp only [if_pos hw]
    unfold amt
    split
    · rfl
    · split <;> rfl
  · simp only [if_neg hw]
    split
    · rfl
    · split <;> rfl
theorem amt11 {d T : Nat} (hd : d < 1440) (hT : T ≤ 1089) {f t : Nat} (hf : f ≤ 23) (ht : t ≤ 23) (L : Int32) : (if nI d - nI T < 0 then some (0 : Int32) else nz (60) <| if ((nI d - nI T) / 60) < nI f then some (0) else nz (60) <| if ((nI d - nI T) / 60) ≤ nI t then some L else some 0) = some (amt (nI d - nI T) (nI f) (nI t) L) := by
  unfold amt
  rw [i60, nI_1, i60]
  by_cases h : d < T
  · have h1 := pk_sneg (a := d) (b := T) (by omega) h
    rw [if_pos h1, if_pos (Int32.lt_of_lt_of_le h1 (nI_pos' (by omega)))]
  · rw [pk_sub (by omega), if_neg (nI_pos (by omega)), nz_ok (by decide), nz_ok (by decide), show (60 : Int32) = nI 60 from rfl, pk_div (by omega) (by decide) (by decide)]
    by_cases h2 : d - T < f * 60
    · rw [if_pos (nI_lt (by omega) (by omega)), if_pos (nI_lt h2 (by omega))]
    · rw [if_neg (nI_nlt (by omega) (by omega)), if_neg (nI_nlt (by omega) (by omega))]
      by_cases h3 : d - T < (t + 1) * 60
      · rw [if_pos (nI_le (by omega) (by omega)), if_pos (nI_lt h3 (by omega))]
      · rw [if_neg (nI_ge (by omega) (by omega)), if_neg (nI_nlt (by omega) (by omega))]
theorem com_loop {th : Int32} {md mi go : Nat → Int32} (hT : Tree th md) {x : Nat} (hx : x < 12) (m : Int32) (ko : Int32 → Int32 → Int32 → Option Int32) : ∀ (v : Nat), v < 12 → hb th v = true → (wy md v).testBit x = true → ∀ (n : Nat) (t a : Int32), v < n → LX11_comesOf_25 (nI x) md mi go ko n (m - t) a (nI v) = ko (m - cy md (gT mi) 12 v x t) (cy md (gA go) 12 v x a) (nI x) := by
  intro v
  induction v using Nat.strongRecOn with
  | _ v ih =>
    intro h1 h2 hw n t a hn
    obtain ⟨k, rfl⟩ : ∃ k, n = k + 1 := ⟨n - 1, by omega⟩
    by_cases hv : v = x
    · subst hv
      rw [LX11_comesOf_25_s, if_pos rfl, cy_x, cy_x]
    · have h3 : 1 ≤ v := by
        apply Nat.pos_of_ne_zero
        intro q
        subst q
        exact hv (way_0 hw).symm
      obtain ⟨q1, q2, q3⟩ := hT.step h3 h1 h2
      rw [LX11_comesOf_25_s, if_neg (fun q => hv ((nI_eq (by omega) (by omega)).mp q)), ri_nI h1 (by decide), lt_eq, ri_nI h1 (by decide), nz_ok (by decide), lt_eq, ri_nI h1 (by decide), q2, cy_s hT (gA go) h1 h2 h3 hv, cy_s hT (gT mi) h1 h2 h3 hv]
      rw [way_s hT h1 h2 h3 hv] at hw
      have := ih _ q1 (by omega) q3 hw k (gT mi v t) (gA go v a) (by omega)
      rw [← this]
      unfold gT gA
      rw [Int32.sub_sub]
theorem comesOf11 {th : Int32} {md mi go : Nat → Int32} (hT : Tree th md) (hm : Bd mi 12 99) {v x d f t : Nat} (hv : v < 12) (hbv : hb th v = true) (hx : x < 12) (hd : d < 1440) (hf : f ≤ 23) (ht : t ≤ 23) (s : Int32) : f_X11_comesOf (nI v) s (nI f) (nI t) (nI x) (nI d) md mi go = some (sAm md mi go v x d s (nI f) (nI t)) := by
  unfold f_X11_comesOf
  rw [wayOf11 hT hv hbv, sb', has11, sb', hb_nI (by have := (wy_ind hT v hv hbv).2.2; omega) (by omega)]
  unfold sAm
  by_cases hw : (wy md v).testBit x = true
  · rw [if_pos hw, if_neg one_ne, if_pos hw]
    have e := com_loop (mi := mi) (go := go) hT hx (nI d) (fun x7 x8 _ => if x7 < 0 then some (0) else nz (60) <| if (x7 / 60) < nI f then some (0) else nz (60) <| if (x7 / 60) ≤ nI t then some (x8) else some (0)) v hv hbv hw FU 0 s (fu_lt (by omega))
    rw [Int32.sub_zero] at e
    refine e.trans ?_
    obtain ⟨T, hT1, hT2⟩ := cy_T hT hm x 12 v 0 hv hbv
    rw [nI_0] at hT2
    rw [hT2]
    exact amt11 hd (by omega) hf ht _
  · rw [if_neg hw, if_pos rfl, if_neg hw]
theorem told11 {th : Int32} {md mi go st fr to : Nat → Int32} (hT : Tree th md) (hm : Bd mi 12 99) (hfr : Bd fr 12 23) (hto : Bd to 12 23) {v x d : Nat} (hv : v < 12) (hbv : hb th v = true) (hx : x < 12) (hd : d < 1440) : f_X11_told (nI v) (nI x) (nI d) md mi go st fr to = some (sAm md mi go v x d (st v) (fr v) (to v)) := by
  unfold f_X11_told
  rw [ri_nI hv (by decide), ri_nI hv (by decide), ri_nI hv (by decide)]
  obtain ⟨f, hf1, hf2⟩ := hfr v hv
  obtain ⟨t, ht1, ht2⟩ := hto v hv
  rw [hf2, ht2, comesOf11 hT hm hv hbv hx hd hf1 ht1]
  rfl
