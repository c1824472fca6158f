/-! what a cup should say -/
def pc (s : Nat) : Nat → Nat
  | 0 => 0
  | n + 1 => pc s n + (if s.testBit n then 1 else 0)
theorem pc_le (s : Nat) : ∀ n, pc s n ≤ n
  | 0 => Nat.le_refl _
  | n + 1 => by
    have := pc_le s n
    rw [pc]; split <;> omega
theorem pc_ge {s x : Nat} (hb : s.testBit x = true) : ∀ n, x < n → 1 ≤ pc s n
  | 0, h => by omega
  | n + 1, h => by
    rw [pc]
    by_cases q : x = n
    · subst q; rw [if_pos hb]; omega
    · have := pc_ge hb n (by omega)
      omega
theorem bit_ex {s : Nat} (h : s ≠ 0) (hs : s < 4096) : ∃ x, x < 12 ∧ s.testBit x = true := by
  obtain ⟨x, hx⟩ := Nat.exists_testBit_of_ne_zero h
  refine ⟨x, ?_, hx⟩
  apply Decidable.byContradiction
  intro q
  rw [tb_hi (n := 12) hs (by omega)] at hx
  exact absurd hx (by decide)
theorem pc_pos {s : Nat} (h : s ≠ 0) (hs : s < 4096) : 1 ≤ pc s 12 := by
  obtain ⟨x, hx, hb⟩ := bit_ex h hs
  exact pc_ge hb 12 hx
theorem bit1 {s i : Nat} (hs : s < 2 ^ 31) (hi : i < 31) : (nI s >>> (nI i &&& 31)) &&& 1 = nI (if s.testBit i then 1 else 0) := by
  rw [pk_shrN hs (nI i &&& 31) i (shrS i (by omega)), show (1 : Int32) = nI 1 from rfl, and_nI, Nat.and_one_is_mod]
  have h2 : s.testBit i = decide ((s / 2 ^ i) % 2 = 1) := by rw [Nat.testBit_eq_decide_div_mod_eq]
  rw [h2]
  rcases Nat.mod_two_eq_zero_or_one (s / 2 ^ i) with h | h <;> rw [h] <;> rfl
theorem many11 {s : Nat} (hs : s < 4096) : f_X11_many (nI s) = some (nI (pc s 12)) := by
  unfold f_X11_many
  refine itv 12 (fun n i => LX11_many_4 (nI s) (fun x3 _ => some x3) n (nI (pc s i)) (nI i)) _ ?_ ?_ FU 0 (by omega) (fu_lt (by omega))
  · intro n
    show LX11_many_4 (nI s) _ (n + 1) (nI (pc s 12)) (nI 12) = _
    rw [LX11_many_4_s, if_pos (by decide)]
  · intro n i hi
    show LX11_many_4 (nI s) _ (n + 1) (nI (pc s i)) (nI i) = LX11_many_4 (nI s) _ n (nI (pc s (i + 1))) (nI (i + 1))
    rw [LX11_many_4_s, if_neg (lt12 hi), lt_eq, lt_eq, bit1 (by omega) (by omega), nI_add, nI_1, pc]
def thn (th : Int32) (md fl rn : Nat → Int32) (A : Nat → Nat → Int32) (m x : Nat) : Int32 := (1000 * A x m) / flS th md fl rn x (m / 60)
theorem pour10 {th : Int32} {md fl rn wg : Nat → Int32} {sL sT : Nat → Nat → Int32} {sF sU : Nat → Int32} (hg : ∀ v, v < 12 → wg v = smS fl (ab th md v) 12) {o1 o2 : Option Nat} {s m : Nat} (a1 a2 : Nat → Nat → Int32) (hs : s < 4096) (hs0 : s ≠ 0) (hm : m < 1440) (h : ∀ x, x < 12 → s.testBit x = true → (om o1 (some 0) fun b => f_X4_amountAt b (nI x) (nI m) sL sT sF sU) = some (a1 x m) ∧ (om o2 (some 0) fun b => f_X4_amountAt b (nI x) (nI m) sL sT sF sU) = some (a2 x m)) : f_X8_pouredTogether (nI s) (nI m) o1 o2 rn wg sL sT sF sU = some (smS (thn th md fl rn (fun x d => a1 x d + a2 x d) m) s 12 / nI (pc s 12)) := by
  unfold f_X8_pouredTogether
  have hp := pc_pos hs0 hs
  have hp2 := pc_le s 12
  refine itv 12 (fun n i => LX8_pouredTogether_9 (nI s) (nI m) o1 o2 rn wg sL sT sF sU (fun x4 x5 _ => lt ((if 1 < x5 then x5 else 1) : Int32) fun x15 => nz (x15) <| some ((x4 / x15))) n (smS (thn th md fl rn (fun x d => a1 x d + a2 x d) m) s i) (nI (pc s i)) (nI i)) _ ?_ ?_ FU 0 (by omega) (fu_lt (by omega))
  · intro n
    show LX8_pouredTogether_9 (nI s) (nI m) o1 o2 rn wg sL sT sF sU _ (n + 1) _ (nI (pc s 12)) (nI 12) = _
    rw [LX8_pouredTogether_9_s, if_pos (by decide), lt_eq]
    have e : (if (1 : Int32) < nI (pc s 12) then nI (pc s 12) else 1) = nI (pc s 12) := by
      by_cases q : pc s 12 = 1
      · rw [q]; rfl
      · rw [if_pos (show (1 : Int32) < nI (pc s 12) from nI_lt (a := 1) (b := pc s 12) (by omega) (by omega))]
    rw [e, nz_ok (nI_ne0 (by omega) (by omega))]
  · intro n i hi
    show LX8_pouredTogether_9 (nI s) (nI m) o1 o2 rn wg sL sT sF sU _ (n + 1) (smS _ s i) (nI (pc s i)) (nI i) = LX8_pouredTogether_9 (nI s) (nI m) o1 o2 rn wg sL sT sF sU _ n (smS _ s (i + 1)) (nI (pc s (i + 1))) (nI (i + 1))
    rw [LX8_pouredTogether_9_s, if_neg (lt12 hi), has10, sb', hb_nI (by omega) (by omega), pc, smS]
    cases hb' : s.testBit i with
    | true =>
      obtain ⟨e1, e2⟩ := h i hi hb'
      simp only [if_true]
      rw [if_neg one_ne, thin10 hg hi hm e1 e2, sb', lt_eq, lt_eq, sb', lt_eq, nI_1, nI_1]
      rfl
    | false =>
      simp only [Bool.false_eq_true, if_false, if_true]
      rw [sb', lt_eq, nI_1, Int32.add_zero]
      rfl
/-- both sides over the hours of a filling -/
theorem sho {th : Int32} {md mi go fl st fr to rn te wg : Nat → Int32} {sL sT : Nat → Nat → Int32} {sF sU fC fS fM fT : Nat → Int32} (hT : Tree th md) (hg : ∀ v, v < 12 → wg v = smS fl (ab th md v) 12) {o1 o2 : Option Nat} {P0 P1 P2 : Int32} {p s m k c : Nat} (a1 a2 b1 b2 : Nat → Nat → Int32) (hab : ∀ x d, b1 x d + b2 x d = a1 x d + a2 x d) (hs : s < 4096) (hs0 : s ≠ 0) (hk : k ≤ 6) (hm : m + 60 * (k - 1) < 1440) (hc : c < 4) (eC : fC p = nI c) (eS : fS p = nI s) (eM : fM p = nI m) (eT : fT p = nI k) (ho : o1 ≠ none ∨ o2 ≠ none) (h10 : ∀ x d, x < 12 → s.testBit x = true → d < 1440 → (om o1 (some 0) fun b => f_X4_amountAt b (nI x) (nI d) sL sT sF sU) = some (a1 x d) ∧ (om o2 (some 0) fun b => f_X4_amountAt b (nI x) (nI d) sL sT sF sU) = some (a2 x d)) (h11 : ∀ x d, x < 12 → s.testBit x = true → d < 1440 → (if 0 ≤ P0 then if 0 ≤ P2 then (f_X11_comesOf P0 P2 0 23 (nI x) (nI d) md mi go).bind fun q23 => some (q23) else (f_X11_told P0 (nI x) (nI d) md mi go st fr to).bind fun q24 => some (q24) else some (0) : Option (Int32)) = some (b1 x d) ∧ (if 0 ≤ P1 then (f_X11_told P1 (nI x) (nI d) md mi go st fr to).bind fun q20 => some (q20) else some (0) : Option (Int32)) = some (b2 x d)) : ∃ r, (r = 0 ∨ r = 1) ∧ f_X8_shouldSayYes p o1 o2 rn te wg sL sT sF sU fC fS fM fT = some r ∧ f_X11_shouldBy P0 P1 P2 (nI c) (nI s) (nI m) (nI k) md mi go fl st fr to rn te th = some r := by
  have hp := pc_pos hs0 hs
  have hp2 := pc_le s 12
  have e0 : f_X8_shouldSayYes p o1 o2 rn te wg sL sT sF sU fC fS fM fT = LX8_shouldSayYes_13 p o1 o2 rn te wg sL sT sF sU fC fS fM fT (fun _ => some 0) FU (nI 0) := by
    unfold f_X8_shouldSayYes
    rw [lt_eq]
    cases o1 with
    | some b => rfl
    | none =>
      cases o2 with
      | some b => rfl
      | none => rcases ho with h | h <;> exact absurd rfl h
  have in11 : ∀ (d : Nat), d < 1440 → ∀ (ko : Int32 → Int32 → Option Int32), LX11_shouldBy_26 P0 P1 P2 (nI s) md mi go fl st fr to rn th (nI d) ko FU 0 0 = ko (smS (thn th md fl rn (fun x d => b1 x d + b2 x d) d) s 12) (nI 12) := by
    intro d hd ko
    refine itv 12 (fun n i => LX11_shouldBy_26 P0 P1 P2 (nI s) md mi go fl st fr to rn th (nI d) ko n (smS (thn th md fl rn (fun x d => b1 x d + b2 x d) d) s i) (nI i)) _ ?_ ?_ FU 0 (by omega) (fu_lt (by omega))
    · intro n
      show LX11_shouldBy_26 P0 P1 P2 (nI s) md mi go fl st fr to rn th (nI d) ko (n + 1) _ (nI 12) = _
      rw [LX11_shouldBy_26_s, if_pos (by decide)]
    · intro n i hi
      show LX11_shouldBy_26 P0 P1 P2 (nI s) md mi go fl st fr to rn th (nI d) ko (n + 1) (smS _ s i) (nI i) = LX11_shouldBy_26 P0 P1 P2 (nI s) md mi go fl st fr to rn th (nI d) ko n (smS _ s (i + 1)) (nI (i + 1))
      rw [LX11_shouldBy_26_s, if_neg (lt12 hi), has11, sb', hb_nI (by omega) (by omega), smS]
      cases hb' : s.testBit i with
      | true =>
        obtain ⟨e1, e2⟩ := h11 i d hi hb' hd
        simp only [if_true]
        rw [if_neg one_ne, e1, sb', e2, sb', lt_eq, thin11 hT _ hi hd, sb', lt_eq, sb', lt_eq, nI_1]
        rfl
      | false =>
        simp only [Bool.false_eq_true, if_false, if_true]
        rw [sb', lt_eq, nI_1, Int32.add_zero]
  have hf : (fun x d => b1 x d + b2 x d) = (fun x d => a1 x d + a2 x d) := funext fun x => funext fun d => hab x d
  rw [hf] at in11
  unfold f_X11_shouldBy
  rw [e0]
  refine it2 k (fun r => r = 0 ∨ r = 1) (fun n i => LX8_shouldSayYes_13 p o1 o2 rn te wg sL sT sF sU fC fS fM fT (fun _ => some 0) n (nI i)) (fun n i => LX11_shouldBy_3 P0 P1 P2 (nI c) (nI s) (nI m) (nI k) md mi go fl st fr to rn te th (fun _ => some 0) n (nI i)) ?_ ?_ FU 0 (by omega) (fu_lt (by omega))
  · intro n
    refine ⟨0, Or.inl rfl, ?_, ?_⟩
    · show LX8_shouldSayYes_13 p o1 o2 rn te wg sL sT sF sU fC fS fM fT _ (n + 1) (nI k) = _
      rw [LX8_shouldSayYes_13_s, eT, if_pos (nI_le (Nat.le_refl _) (by omega))]
    · show LX11_shouldBy_3 P0 P1 P2 (nI c) (nI s) (nI m) (nI k) md mi go fl st fr to rn te th _ (n + 1) (nI k) = _
      rw [LX11_shouldBy_3_s, if_pos (nI_le (Nat.le_refl _) (by omega))]
  · intro n i hi
    have hd : m + i * 60 < 1440 := by omega
    have e1 : LX8_shouldSayYes_13 p o1 o2 rn te wg sL sT sF sU fC fS fM fT (fun _ => some 0) (n + 1) (nI i) = if (smS (thn th md fl rn (fun x d => a1 x d + a2 x d) (m + i * 60)) s 12 / nI (pc s 12)) < te c then LX8_shouldSayYes_13 p o1 o2 rn te wg sL sT sF sU fC fS fM fT (fun _ => some 0) n (nI (i + 1)) else some 1 := by
      rw [LX8_shouldSayYes_13_s, eT, if_neg (nI_ge hi (by omega)), lt_eq, eM, eS, eC, i60, nI_add, pour10 hg a1 a2 hs hs0 hd (fun x hx hb => h10 x _ hx hb hd), sb', ri_nI hc (by decide), lt_eq, nI_1]
    have e2 : LX11_shouldBy_3 P0 P1 P2 (nI c) (nI s) (nI m) (nI k) md mi go fl st fr to rn te th (fun _ => some 0) (n + 1) (nI i) = if (smS (thn th md fl rn (fun x d => a1 x d + a2 x d) (m + i * 60)) s 12 / nI (pc s 12)) < te c then LX11_shouldBy_3 P0 P1 P2 (nI c) (nI s) (nI m) (nI k) md mi go fl st fr to rn te th (fun _ => some 0) n (nI (i + 1)) else some 1 := by
      rw [LX11_shouldBy_3_s, if_neg (nI_ge hi (by omega)), lt_eq, show (60 : Int32) = nI 60 from rfl, pk_mul, nI_add, Nat.mul_comm 60 i, in11 _ hd, many11 hs, sb', nz_ok (nI_ne0 (by omega) (by omega)), ri_nI hc (by decide), lt_eq, nI_1]
    show (∃ r, (r = 0 ∨ r = 1) ∧ LX8_shouldSayYes_13 p o1 o2 rn te wg sL sT sF sU fC fS fM fT (fun _ => some 0) (n + 1) (nI i) = some r ∧ LX11_shouldBy_3 P0 P1 P2 (nI c) (nI s) (nI m) (nI k) md mi go fl st fr to rn te th (fun _ => some 0) (n + 1) (nI i) = some r) ∨ _
    rw [e1, e2]
    by_cases q : (smS (thn th md fl rn (fun x d => a1 x d + a2 x d) (m + i * 60)) s 12 / nI (pc s 12)) < te c
    · rw [if_pos q, if_pos q]
      exact Or.inr ⟨rfl, rfl⟩
    · rw [if_neg q, if_neg q]
      exact Or.inl ⟨1, Or.inr rfl, rfl, rfl⟩
