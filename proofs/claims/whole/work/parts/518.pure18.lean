/-! least of some; what a lid leaves; the best searches as numbers -/
def mn (D : Nat) (P : Nat → Bool) (g : Nat → Nat) : Nat → Nat
  | 0 => D
  | n + 1 => if P n = true ∧ g n < mn D P g n then g n else mn D P g n
theorem mn_D (D : Nat) (P : Nat → Bool) (g : Nat → Nat) : ∀ n, mn D P g n ≤ D
  | 0 => Nat.le_refl _
  | n + 1 => by
    have := mn_D D P g n
    rw [mn]; split <;> omega
theorem mn_le {D : Nat} {P : Nat → Bool} {g : Nat → Nat} : ∀ n v, v < n → P v = true → mn D P g n ≤ g v
  | 0, v, h, _ => by omega
  | n + 1, v, h, hP => by
    rw [mn]
    by_cases q : v = n
    · subst q
      split
      · exact Nat.le_refl _
      · rename_i w
        apply Decidable.byContradiction
        intro z
        exact w ⟨hP, by omega⟩
    · have := mn_le (D := D) (g := g) n v (by omega) hP
      split <;> omega
theorem mn_ex {D : Nat} {P : Nat → Bool} {g : Nat → Nat} : ∀ n, mn D P g n = D ∨ ∃ v, v < n ∧ P v = true ∧ mn D P g n = g v
  | 0 => Or.inl rfl
  | n + 1 => by
    rw [mn]
    split
    · rename_i w
      exact Or.inr ⟨n, by omega, w.1, rfl⟩
    · rcases mn_ex (D := D) (P := P) (g := g) n with h | ⟨v, h1, h2, h3⟩
      · exact Or.inl h
      · exact Or.inr ⟨v, by omega, h2, h3⟩
theorem mn_cong {D : Nat} {P : Nat → Bool} {g h : Nat → Nat} : ∀ n, (∀ v, v < n → P v = true → g v = h v) → mn D P g n = mn D P h n
  | 0, _ => rfl
  | n + 1, H => by
    rw [mn, mn, mn_cong n (fun v hv => H v (by omega))]
    by_cases q : P n = true
    · rw [H n (by omega) q]
    · rw [if_neg (fun w => q w.1), if_neg (fun w => q w.1)]
theorem mn_uniq {D : Nat} {P : Nat → Bool} {g : Nat → Nat} {n m : Nat} (h1 : ∀ v, v < n → P v = true → m ≤ g v) (h2 : ∃ v, v < n ∧ P v = true ∧ g v ≤ m) (hD : m ≤ D) : mn D P g n = m := by
  obtain ⟨v, a, b, c⟩ := h2
  have d := mn_le (D := D) (g := g) n v a b
  rcases mn_ex (D := D) (P := P) (g := g) n with h | ⟨w, e1, e2, e3⟩
  · omega
  · have := h1 w e1 e2
    omega
theorem mn_DD {D D' : Nat} {P : Nat → Bool} {g : Nat → Nat} {n v : Nat} (hv : v < n) (hP : P v = true) (h : g v < D) (h' : g v < D') : mn D P g n = mn D' P g n := by
  have a1 := mn_le (D := D') (g := g) n v hv hP
  refine mn_uniq (fun w hw hw2 => mn_le n w hw hw2) ?_ (by omega)
  rcases mn_ex (D := D') (P := P) (g := g) n with h | ⟨w, e1, e2, e3⟩
  · omega
  · exact ⟨w, e1, e2, by omega⟩
theorem mn_add {D c : Nat} {P : Nat → Bool} {g : Nat → Nat} : ∀ n, mn (D + c) P (fun v => g v + c) n = mn D P g n + c
  | 0 => rfl
  | n + 1 => by
    rw [mn, mn, mn_add n]
    by_cases q : P n = true ∧ g n < mn D P g n
    · rw [if_pos q, if_pos ⟨q.1, by omega⟩]
    · rw [if_neg q, if_neg (fun w => q ⟨w.1, by omega⟩)]
def mx (a b : Nat) : Nat := if a < b then b else a
theorem mx_le {a b c : Nat} (h1 : a ≤ c) (h2 : b ≤ c) : mx a b ≤ c := by unfold mx; split <;> omega
theorem mx10 {a b : Nat} (ha : a < 2 ^ 31) (hb : b < 2 ^ 31) : (if nI a < nI b then nI b else nI a) = nI (mx a b) := by
  unfold mx
  by_cases h : a < b
  · rw [if_pos h, if_pos (nI_lt h hb)]
  · rw [if_neg h, if_neg (nI_nlt (by omega) ha)]
theorem mx11 {a b : Nat} (ha : a < 2 ^ 31) (hb : b < 2 ^ 31) : f_X11_greater (nI a) (nI b) = some (nI (mx a b)) := by
  unfold f_X11_greater mx
  by_cases h : a < b
  · rw [if_pos h, if_pos (nI_le (by omega) hb)]
  · rw [if_neg h]
    by_cases h2 : a = b
    · subst h2; split <;> rfl
    · rw [if_neg (nI_ge (by omega) ha)]
/-! what a lid leaves -/
def yS (A : Nat → Nat) (s v : Nat) : Nat := s &&& A v
def nS (A : Nat → Nat) (s v : Nat) : Nat := s ^^^ (s &&& A v)
def spl (A : Nat → Nat) (s v : Nat) : Bool := decide (¬ yS A s v = 0) && decide (¬ yS A s v = s)
theorem spl_i {A : Nat → Nat} {s v : Nat} : spl A s v = true ↔ ¬ yS A s v = 0 ∧ ¬ yS A s v = s := by
  unfold spl; simp
theorem nS_bit (A : Nat → Nat) (s v i : Nat) : (nS A s v).testBit i = (s.testBit i && !((A v).testBit i)) := by
  unfold nS
  rw [Nat.testBit_xor, Nat.testBit_and]
  cases s.testBit i <;> cases (A v).testBit i <;> rfl
theorem yS_bit (A : Nat → Nat) (s v i : Nat) : (yS A s v).testBit i = (s.testBit i && (A v).testBit i) := by
  unfold yS
  rw [Nat.testBit_and]
theorem nS_sub (A : Nat → Nat) (s v : Nat) : nS A s v &&& s = nS A s v := by
  apply Nat.eq_of_testBit_eq
  intro i
  rw [Nat.testBit_and, nS_bit]
  cases s.testBit i <;> cases (A v).testBit i <;> rfl
theorem yS_sub (A : Nat → Nat) (s v : Nat) : yS A s v &&& s = yS A s v := by
  apply Nat.eq_of_testBit_eq
  intro i
  rw [Nat.testBit_and, yS_bit]
  cases s.testBit i <;> cases (A v).testBit i <;> rfl
theorem nS_ne (A : Nat → Nat) (s v : Nat) (h : ¬ yS A s v = 0) : ¬ nS A s v = s := by
  intro q
  apply h
  apply Nat.eq_of_testBit_eq
  intro i
  have := congrArg (fun z => z.testBit i) q
  simp only [nS_bit] at this
  rw [yS_bit, Nat.zero_testBit]
  cases hs : s.testBit i <;> cases ha : (A v).testBit i <;> simp_all
theorem nS_n0 (A : Nat → Nat) (s v : Nat) (h : ¬ yS A s v = s) : ¬ nS A s v = 0 := by
  intro q
  apply h
  apply Nat.eq_of_testBit_eq
  intro i
  have := congrArg (fun z => z.testBit i) q
  simp only [nS_bit, Nat.zero_testBit] at this
  rw [yS_bit]
  cases hs : s.testBit i <;> cases ha : (A v).testBit i <;> simp_all
theorem sub_tr {x s a : Nat} (h : x &&& s = x) (h2 : s &&& a = s) : x &&& a = x := by
  rw [← h, Nat.and_assoc, h2]
theorem spl_lt {A : Nat → Nat} {s v : Nat} (h : spl A s v = true) : yS A s v < s ∧ nS A s v < s := by
  obtain ⟨h1, h2⟩ := spl_i.mp h
  have a1 : yS A s v ≤ s := by rw [← yS_sub]; exact Nat.and_le_right
  have a2 : nS A s v ≤ s := by rw [← nS_sub]; exact Nat.and_le_right
  have a3 := nS_ne A s v h1
  omega
theorem pc_split (A : Nat → Nat) (s v : Nat) : ∀ n, pc (yS A s v) n + pc (nS A s v) n = pc s n
  | 0 => rfl
  | n + 1 => by
    have := pc_split A s v n
    rw [pc, pc, pc, nS_bit, yS_bit]
    cases s.testBit n <;> cases (A v).testBit n <;> simp <;> omega
theorem spl_pc {A : Nat → Nat} {s v : Nat} (hs : s < 4096) (h : spl A s v = true) : 1 ≤ pc (yS A s v) 12 ∧ 1 ≤ pc (nS A s v) 12 ∧ pc (yS A s v) 12 + pc (nS A s v) 12 = pc s 12 := by
  obtain ⟨h1, h2⟩ := spl_i.mp h
  obtain ⟨h3, h4⟩ := spl_lt h
  exact ⟨pc_pos h1 (by omega), pc_pos (nS_n0 A s v h2) (by omega), pc_split A s v 12⟩
theorem pc_bit {s : Nat} : ∀ n, 1 ≤ pc s n → ∃ a, a < n ∧ s.testBit a = true
  | 0, h => by rw [pc] at h; omega
  | n + 1, h => by
    by_cases q : s.testBit n = true
    · exact ⟨n, by omega, q⟩
    · rw [pc, if_neg q] at h
      obtain ⟨a, h1, h2⟩ := pc_bit n h
      exact ⟨a, by omega, h2⟩
theorem pc_two {s : Nat} : ∀ n, 2 ≤ pc s n → ∃ a b, a < b ∧ b < n ∧ s.testBit a = true ∧ s.testBit b = true
  | 0, h => by rw [pc] at h; omega
  | n + 1, h => by
    by_cases q : s.testBit n = true
    · rw [pc, if_pos q] at h
      obtain ⟨a, h1, h2⟩ := pc_bit (s := s) n (by omega)
      exact ⟨a, n, h1, by omega, h2, q⟩
    · rw [pc, if_neg q] at h
      obtain ⟨a, b, h1, h2, h3, h4⟩ := pc_two n h
      exact ⟨a, b, h1, by omega, h3, h4⟩
theorem sub_bit {s t i : Nat} (h : s &&& t = s) (q : s.testBit i = true) : t.testBit i = true := by
  rw [← h, Nat.testBit_and] at q
  cases ht : t.testBit i with
  | true => rfl
  | false => rw [ht] at q; simp at q
/-- two sources are told apart by a lid -/
theorem spl_ex {th : Int32} {md lk : Nat → Int32} (hT : Tree th md) {s : Nat} (hs : s &&& srN th lk = s) (h2 : 2 ≤ pc s 12) : ∃ v, v < 12 ∧ hb th v = true ∧ spl (ab th md) s v = true := by
  obtain ⟨a, b, h3, h4, h5, h6⟩ := pc_two 12 h2
  have ta := (sr_bit (sub_bit hs h5)).2.1
  have tb := (sr_bit (sub_bit hs h6)).2.1
  have w1 := (wy_ind hT b h4 tb).2.1
  have w2 : (wy md a).testBit b = false := by
    cases hz : (wy md a).testBit b with
    | false => rfl
    | true => have := ((wy_ind hT a (by omega) ta).1 b hz).1; omega
  refine ⟨b, h4, tb, spl_i.mpr ⟨fun q => ?_, fun q => ?_⟩⟩
  · have := congrArg (fun z => z.testBit b) q
    simp only [yS_bit, Nat.zero_testBit] at this
    rw [h6, ab_bit h4 tb, w1] at this
    exact absurd this (by decide)
  · have := congrArg (fun z => z.testBit a) q
    simp only [yS_bit] at this
    rw [h5, ab_bit (by omega) ta, w2] at this
    exact absurd this (by decide)
theorem spl_th {th : Int32} {md : Nat → Int32} (hT : Tree th md) {s v : Nat} (hv : v < 12) (h : spl (ab th md) s v = true) : hb th v = true := by
  apply Decidable.byContradiction
  intro q
  apply (spl_i.mp h).1
  unfold yS
  rw [ab_no hT hv q]
  exact Nat.and_zero s
/-! by what is less -/
def RK {α : Type} (d : α) (st : (Nat → α) → Nat → α) : Nat → Nat → α
  | 0, _ => d
  | k + 1, s => st (RK d st k) s
theorem RK_st {α : Type} {d : α} {st : (Nat → α) → Nat → α} (h : ∀ f g s, (∀ t, t < s → f t = g t) → st f s = st g s) : ∀ k k' s, s < k → s < k' → RK d st k s = RK d st k' s
  | 0, _, _, h1, _ => by omega
  | _ + 1, 0, _, _, h2 => by omega
  | k + 1, k' + 1, s, h1, h2 => h _ _ s (fun t ht => RK_st h k k' t (by omega) (by omega))
def RF {α : Type} (d : α) (st : (Nat → α) → Nat → α) (s : Nat) : α := RK d st (s + 1) s
theorem RF_eq {α : Type} {d : α} {st : (Nat → α) → Nat → α} (h : ∀ f g s, (∀ t, t < s → f t = g t) → st f s = st g s) (s : Nat) : RF d st s = st (RF d st) s :=
  h _ _ s (fun t ht => RK_st h s (t + 1) t (by omega) (by omega))
def gF (A : Nat → Nat) (f : Nat → Nat) (s v : Nat) : Nat := 1 + mx (f (yS A s v)) (f (nS A s v))
def gM (A : Nat → Nat) (f : Nat → Nat) (s v : Nat) : Nat := f (yS A s v) + f (nS A s v)
def gC (A : Nat → Nat) (li : Nat) (f : Nat → Nat → Nat) (s v : Nat) : Nat := li + mx (f (yS A s v) v) (f (nS A s v) v)
def stF (A : Nat → Nat) (f : Nat → Nat) (s : Nat) : Nat := if pc s 12 < 2 then 0 else mn 1000000 (spl A s) (gF A f s) 12
def stM (A : Nat → Nat) (l : Nat → Nat) (f : Nat → Nat) (s : Nat) : Nat := if pc s 12 < 2 then 0 else mn 1000000 (spl A s) (gM A f s) 12 + l s
def stS (A : Nat → Nat) (li : Nat) (w : Nat → Nat → Nat) (f : Nat → Nat → Nat) (s x : Nat) : Nat := if pc s 12 < 2 then 0 else mn 1000000 (spl A s) (fun v => w x v + gC A li f s v) 12
theorem stF_c (A : Nat → Nat) : ∀ f g s, (∀ t, t < s → f t = g t) → stF A f s = stF A g s := by
  intro f g s h
  unfold stF
  rw [mn_cong 12 (fun v _ hP => ?_)]
  obtain ⟨a, b⟩ := spl_lt hP
  unfold gF
  rw [h _ a, h _ b]
theorem stM_c (A l : Nat → Nat) : ∀ f g s, (∀ t, t < s → f t = g t) → stM A l f s = stM A l g s := by
  intro f g s h
  unfold stM
  rw [mn_cong 12 (fun v _ hP => ?_)]
  obtain ⟨a, b⟩ := spl_lt hP
  unfold gM
  rw [h _ a, h _ b]
theorem stS_c (A : Nat → Nat) (li : Nat) (w : Nat → Nat → Nat) : ∀ (f g : Nat → Nat → Nat) s, (∀ t, t < s → f t = g t) → stS A li w f s = stS A li w g s := by
  intro f g s h
  funext x
  unfold stS
  rw [mn_cong 12 (fun v _ hP => ?_)]
  obtain ⟨a, b⟩ := spl_lt hP
  unfold gC
  rw [h _ a, h _ b]
def vF (A : Nat → Nat) : Nat → Nat := RF 0 (stF A)
def vM (A l : Nat → Nat) : Nat → Nat := RF 0 (stM A l)
def vS (A : Nat → Nat) (li : Nat) (w : Nat → Nat → Nat) : Nat → Nat → Nat := RF (fun _ => 0) (stS A li w)
theorem vF_eq (A : Nat → Nat) (s : Nat) : vF A s = stF A (vF A) s := RF_eq (stF_c A) s
theorem vM_eq (A l : Nat → Nat) (s : Nat) : vM A l s = stM A l (vM A l) s := RF_eq (stM_c A l) s
theorem vS_eq (A : Nat → Nat) (li : Nat) (w : Nat → Nat → Nat) (s : Nat) : vS A li w s = stS A li w (vS A li w) s := RF_eq (stS_c A li w) s
section
variable {th : Int32} {md lk : Nat → Int32} {l : Nat → Nat} {li : Nat} {w : Nat → Nat → Nat}
theorem sub_lt {s : Nat} (hs : s &&& srN th lk = s) : s < 4096 := by
  have := sr_lt th lk
  have : s ≤ srN th lk := by rw [← hs]; exact Nat.and_le_right
  omega
theorem vF_bd (hT : Tree th md) : ∀ s, s &&& srN th lk = s → vF (ab th md) s ≤ pc s 12 := by
  intro s
  induction s using Nat.strongRecOn with
  | _ s ih =>
    intro hs
    rw [vF_eq]
    unfold stF
    by_cases h : pc s 12 < 2
    · rw [if_pos h]; omega
    · rw [if_neg h]
      obtain ⟨v, hv, _, hP⟩ := spl_ex hT hs (by omega)
      obtain ⟨a, b⟩ := spl_lt hP
      obtain ⟨c1, c2, c3⟩ := spl_pc (sub_lt hs) hP
      have h1 := ih _ a (sub_tr (yS_sub _ s v) hs)
      have h2 := ih _ b (sub_tr (nS_sub _ s v) hs)
      refine Nat.le_trans (mn_le 12 v hv hP) ?_
      unfold gF
      have := mx_le (c := pc s 12 - 1) (by omega : vF (ab th md) (yS (ab th md) s v) ≤ _) (by omega : vF (ab th md) (nS (ab th md) s v) ≤ _)
      omega
theorem vM_bd (hT : Tree th md) (hl : ∀ s, l s ≤ 1188) : ∀ s, s &&& srN th lk = s → vM (ab th md) l s ≤ 1188 * (2 * pc s 12 - 1) := by
  intro s
  induction s using Nat.strongRecOn with
  | _ s ih =>
    intro hs
    rw [vM_eq]
    unfold stM
    by_cases h : pc s 12 < 2
    · rw [if_pos h]; exact Nat.zero_le _
    · rw [if_neg h]
      obtain ⟨v, hv, _, hP⟩ := spl_ex hT hs (by omega)
      obtain ⟨a, b⟩ := spl_lt hP
      obtain ⟨c1, c2, c3⟩ := spl_pc (sub_lt hs) hP
      have h1 := ih _ a (sub_tr (yS_sub _ s v) hs)
      have h2 := ih _ b (sub_tr (nS_sub _ s v) hs)
      have h3 := mn_le (D := 1000000) (g := gM (ab th md) (vM (ab th md) l) s) 12 v hv hP
      have h4 := hl s
      have h5 : gM (ab th md) (vM (ab th md) l) s v = vM (ab th md) l (yS (ab th md) s v) + vM (ab th md) l (nS (ab th md) s v) := rfl
      omega
theorem vS_bd (hT : Tree th md) (hw : ∀ x v, w x v ≤ 660) (hli : li ≤ 60) : ∀ s, s &&& srN th lk = s → ∀ x, vS (ab th md) li w s x ≤ 720 * pc s 12 := by
  intro s
  induction s using Nat.strongRecOn with
  | _ s ih =>
    intro hs x
    rw [vS_eq]
    unfold stS
    by_cases h : pc s 12 < 2
    · rw [if_pos h]; exact Nat.zero_le _
    · rw [if_neg h]
      obtain ⟨v, hv, _, hP⟩ := spl_ex hT hs (by omega)
      obtain ⟨a, b⟩ := spl_lt hP
      obtain ⟨c1, c2, c3⟩ := spl_pc (sub_lt hs) hP
      have h1 := ih _ a (sub_tr (yS_sub _ s v) hs) v
      have h2 := ih _ b (sub_tr (nS_sub _ s v) hs) v
      refine Nat.le_trans (mn_le 12 v hv hP) ?_
      unfold gC
      have h3 := hw x v
      have := mx_le (c := 720 * (pc s 12 - 1)) (by omega : vS (ab th md) li w (yS (ab th md) s v) v ≤ _) (by omega : vS (ab th md) li w (nS (ab th md) s v) v ≤ _)
      omega
end
