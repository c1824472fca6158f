/-- the links to nest mates, as the tables have them -/
def nwF : List (String × Nat × String × String × String × String) := [("UpDrain", 101, "UpDrain$Text", "kinds", "[I", "UpDrain"), ("UpDrain", 105, "UpDrain$Text", "numbers", "[I", "UpDrain"), ("UpDrain", 83, "UpDrain$Text", "length", "I", "UpDrain"), ("UpDrain", 98, "UpDrain$Text", "lines", "I", "UpDrain"), ("UpDrain$Stream", 33, "UpDrain$Town", "down", "[I", "UpDrain"), ("UpDrain$Ways", 39, "UpDrain$Town", "down", "[I", "UpDrain"), ("UpDrain", 116, "UpDrain$Town", "down", "[I", "UpDrain"), ("UpDrain$Hunt", 84, "UpDrain$Town", "down", "[I", "UpDrain"), ("UpDrain$Stream", 30, "UpDrain$Town", "minutes", "[I", "UpDrain"), ("UpDrain", 119, "UpDrain$Town", "minutes", "[I", "UpDrain"), ("UpDrain$Ways", 42, "UpDrain$Town", "paces", "[I", "UpDrain"), ("UpDrain", 122, "UpDrain$Town", "paces", "[I", "UpDrain"), ("UpDrain$Hunt", 89, "UpDrain$Town", "paces", "[I", "UpDrain"), ("UpDrain$Stream", 25, "UpDrain$Town", "gone", "[I", "UpDrain"), ("UpDrain", 125, "UpDrain$Town", "gone", "[I", "UpDrain"), ("UpDrain$Water", 62, "UpDrain$Town", "inflow", "[I", "UpDrain"), ("UpDrain", 128, "UpDrain$Town", "inflow", "[I", "UpDrain"), ("UpDrain$Ways", 36, "UpDrain$Town", "likely", "[I", "UpDrain"), ("UpDrain$DayWalk", 97, "UpDrain$Town", "likely", "[I", "UpDrain"), ("UpDrain$Thoughts", 87, "UpDrain$Town", "likely", "[I", "UpDrain"), ("UpDrain", 131, "UpDrain$Town", "likely", "[I", "UpDrain"), ("UpDrain$Water", 49, "UpDrain$Town", "strength", "[I", "UpDrain"), ("UpDrain", 134, "UpDrain$Town", "strength", "[I", "UpDrain"), ("UpDrain$Water", 52, "UpDrain$Town", "from", "[I", "UpDrain"), ("UpDrain", 137, "UpDrain$Town", "from", "[I", "UpDrain"), ("UpDrain$Water", 55, "UpDrain$Town", "until", "[I", "UpDrain"), ("UpDrain", 140, "UpDrain$Town", "until", "[I", "UpDrain"), ("UpDrain$Water", 65, "UpDrain$Town", "rain", "[I", "UpDrain"), ("UpDrain$Water", 90, "UpDrain$Town", "tells", "[I", "UpDrain"), ("UpDrain", 146, "UpDrain$Town", "tells", "[I", "UpDrain"), ("UpDrain$DayWalk", 103, "UpDrain$Town", "wrongYes", "[I", "UpDrain"), ("UpDrain", 149, "UpDrain$Town", "wrongYes", "[I", "UpDrain"), ("UpDrain$Thoughts", 114, "UpDrain$Town", "wrongYes", "[I", "UpDrain"), ("UpDrain$DayWalk", 100, "UpDrain$Town", "wrongNo", "[I", "UpDrain"), ("UpDrain", 152, "UpDrain$Town", "wrongNo", "[I", "UpDrain"), ("UpDrain$Thoughts", 108, "UpDrain$Town", "wrongNo", "[I", "UpDrain"), ("UpDrain$Water", 39, "UpDrain$Town", "there", "I", "UpDrain"), ("UpDrain$Ways", 23, "UpDrain$Town", "there", "I", "UpDrain"), ("UpDrain$Lids", 66, "UpDrain$Town", "there", "I", "UpDrain"), ("UpDrain$Thoughts", 120, "UpDrain$Town", "there", "I", "UpDrain"), ("UpDrain", 316, "UpDrain$Town", "there", "I", "UpDrain"), ("UpDrain$DayWalk", 63, "UpDrain$Town", "lift", "I", "UpDrain"), ("UpDrain$Hunt", 99, "UpDrain$Town", "lift", "I", "UpDrain"), ("UpDrain", 324, "UpDrain$Town", "lift", "I", "UpDrain"), ("UpDrain$Thoughts", 62, "UpDrain$Town", "none", "I", "UpDrain"), ("UpDrain", 327, "UpDrain$Town", "none", "I", "UpDrain"), ("UpDrain$Water", 30, "UpDrain$Ways", "over", "[I", "UpDrain"), ("UpDrain$DayWalk", 72, "UpDrain$Ways", "over", "[I", "UpDrain"), ("UpDrain$Lids", 30, "UpDrain$Ways", "over", "[I", "UpDrain"), ("UpDrain$Hunt", 57, "UpDrain$Ways", "over", "[I", "UpDrain"), ("UpDrain", 155, "UpDrain$Ways", "over", "[I", "UpDrain"), ("UpDrain$DayWalk", 45, "UpDrain$Ways", "sources", "I", "UpDrain"), ("UpDrain$Hunt", 33, "UpDrain$Ways", "sources", "I", "UpDrain"), ("UpDrain$Thoughts", 78, "UpDrain$Ways", "sources", "I", "UpDrain"), ("UpDrain$Lids", 54, "UpDrain$Ways", "sources", "I", "UpDrain"), ("UpDrain", 261, "UpDrain$Ways", "sources", "I", "UpDrain"), ("UpDrain$Thoughts", 91, "UpDrain$Water", "streams", "[LUpDrain$Stream;", "UpDrain"), ("UpDrain", 171, "UpDrain$Water", "streams", "[LUpDrain$Stream;", "UpDrain"), ("UpDrain$Water", 93, "UpDrain$Filling", "cup", "I", "UpDrain"), ("UpDrain$Thoughts", 111, "UpDrain$Filling", "cup", "I", "UpDrain"), ("UpDrain$Water", 83, "UpDrain$Filling", "set", "I", "UpDrain"), ("UpDrain$Water", 80, "UpDrain$Filling", "minute", "I", "UpDrain"), ("UpDrain$Water", 75, "UpDrain$Filling", "times", "I", "UpDrain"), ("UpDrain$Thoughts", 117, "UpDrain$Filling", "yes", "Z", "UpDrain"), ("UpDrain", 225, "UpDrain$Thoughts", "ofOne", "[J", "UpDrain"), ("UpDrain", 239, "UpDrain$Thoughts", "ofTwo", "[J", "UpDrain"), ("UpDrain", 222, "UpDrain$Thoughts", "ofNone", "J", "UpDrain"), ("UpDrain", 216, "UpDrain$Thoughts", "allOfOne", "J", "UpDrain"), ("UpDrain", 236, "UpDrain$Thoughts", "allOfTwo", "J", "UpDrain"), ("UpDrain", 196, "UpDrain$Thoughts", "size", "I", "UpDrain"), ("UpDrain", 258, "UpDrain$Hunt", "fewestLids", "[I", "UpDrain"), ("UpDrain", 267, "UpDrain$Hunt", "leastSum", "[I", "UpDrain"), ("UpDrain", 273, "UpDrain$Hunt", "leastMinutes", "[I", "UpDrain"), ("UpDrain", 305, "UpDrain$DayWalk", "minutes", "I", "UpDrain"), ("UpDrain", 307, "UpDrain$DayWalk", "guessed", "I", "UpDrain"), ("UpDrain", 310, "UpDrain$DayWalk", "source", "I", "UpDrain"), ("UpDrain", 313, "UpDrain$DayWalk", "lifted", "I", "UpDrain")]
def nwM : List (String × Nat × MethodName × String) := [("UpDrain", 9, ⟨"UpDrain$Text", "<init>", "()V"⟩, "UpDrain"), ("UpDrain$Water", 29, ⟨"UpDrain$Stream", "<init>", "()V"⟩, "UpDrain"), ("UpDrain$Thoughts", 19, ⟨"UpDrain$Stream", "<init>", "()V"⟩, "UpDrain"), ("UpDrain$Thoughts", 43, ⟨"UpDrain$Filling", "<init>", "()V"⟩, "UpDrain"), ("UpDrain", 75, ⟨"UpDrain$Filling", "<init>", "()V"⟩, "UpDrain"), ("UpDrain$Ways", 28, ⟨"UpDrain", "has", "(II)Z"⟩, "UpDrain"), ("UpDrain$Water", 45, ⟨"UpDrain", "has", "(II)Z"⟩, "UpDrain"), ("UpDrain$Town", 78, ⟨"UpDrain", "has", "(II)Z"⟩, "UpDrain"), ("UpDrain$Thoughts", 83, ⟨"UpDrain", "has", "(II)Z"⟩, "UpDrain"), ("UpDrain$Lids", 35, ⟨"UpDrain", "has", "(II)Z"⟩, "UpDrain"), ("UpDrain$DayWalk", 82, ⟨"UpDrain", "has", "(II)Z"⟩, "UpDrain")]
/-! my own base: one world of 109 cells by their numbers, rows for instructions over it, small functions for what a walk answers -/
/-- the cells 0 .. N - 1 of the system, cell j at the address ad j with what C says -/
def wd (N : Nat) (ad : Nat → Nat) (C : Nat → va_E) : va_W := (List.range N).map (fun j => (ad j, C j))
theorem wd_get {N : Nat} {ad : Nat → Nat} {C : Nat → va_E} {j : Nat} (h : j < N) : (wd N ad C)[j]? = some (ad j, C j) := by
  simp [wd, List.getElem?_range h]
theorem wd_at {N : Nat} {ad : Nat → Nat} {C : Nat → va_E} {j : Nat} {e : va_E} (h : j < N) (hc : C j = e) : (wd N ad C)[j]? = some (ad j, e) := by
  rw [wd_get h, hc]
theorem wd_of {N : Nat} {ad : Nat → Nat} {C : Nat → va_E} {k : Nat} {q : Nat × va_E} (h : (wd N ad C)[k]? = some q) : k < N ∧ q = (ad k, C k) := by
  have hl : k < N := by
    have := (List.getElem?_eq_some_iff.mp h).1
    simpa [wd] using this
  rw [wd_get hl] at h
  exact ⟨hl, (Option.some.inj h).symm⟩
theorem wd_set {N : Nat} {ad : Nat → Nat} {C : Nat → va_E} {j : Nat} {e : va_E} (h : j < N) : (wd N ad C).set j (ad j, e) = wd N ad (va_up C j e) := by
  apply List.ext_getElem?
  intro k
  by_cases hk : k < N
  · by_cases hj : j = k
    · subst hj
      rw [List.getElem?_set_self (by simpa [wd] using hk), wd_get hk, va_up_self]
    · rw [List.getElem?_set_ne hj, wd_get hk, wd_get hk, va_up_ne _ _ (Ne.symm hj)]
  · rw [List.getElem?_eq_none (by simp [wd]; omega), List.getElem?_eq_none (by simp [wd]; omega)]
theorem wd_push {N : Nat} {ad : Nat → Nat} {C : Nat → va_E} {a : Nat} {e : va_E} : wd N ad C ++ [(a, e)] = wd (N + 1) (va_up ad N a) (va_up C N e) := by
  apply List.ext_getElem?
  intro k
  by_cases hk : k < N
  · rw [List.getElem?_append_left (by simpa [wd] using hk), wd_get hk, wd_get (by omega), va_up_ne _ _ (by omega), va_up_ne _ _ (by omega)]
  · by_cases hk2 : k = N
    · subst hk2
      rw [List.getElem?_append_right (by simp [wd]), wd_get (by omega), va_up_self, va_up_self]
      simp [wd]
    · rw [List.getElem?_eq_none (by simp [wd]; omega), List.getElem?_eq_none (by simp [wd]; omega)]
/-- no two of the cells are one -/
def Inj (N : Nat) (ad : Nat → Nat) : Prop := ∀ i j : Nat, i < N → j < N → ad i = ad j → i = j
/-- what may change: the cells, and what is new -/
def Aw (N : Nat) (ad : Nat → Nat) (sz : Nat) : Nat → Prop := fun q => (∃ j : Nat, j < N ∧ ad j = q) ∨ sz ≤ q
/-- what is new alone -/
def An (sz : Nat) : Nat → Prop := fun q => sz ≤ q
theorem Inj.D {N : Nat} {ad : Nat → Nat} (h : Inj N ad) (C : Nat → va_E) (sz : Nat) : va_D (Aw N ad sz) (wd N ad C) := by
  refine ⟨fun i j p q hi hj hpq => ?_, fun k q hk => ?_⟩
  · obtain ⟨h1, rfl⟩ := wd_of hi
    obtain ⟨h2, rfl⟩ := wd_of hj
    exact h i j h1 h2 hpq
  · obtain ⟨h1, rfl⟩ := wd_of hk
    exact Or.inl ⟨k, h1, rfl⟩
theorem Inj.Da {N : Nat} {ad : Nat → Nat} {A : Nat → Prop} (h : Inj N ad) (hA : ∀ j : Nat, j < N → A (ad j)) (C : Nat → va_E) : va_D A (wd N ad C) := by
  refine ⟨fun i j p q hi hj hpq => ?_, fun k q hk => ?_⟩
  · obtain ⟨h1, rfl⟩ := wd_of hi
    obtain ⟨h2, rfl⟩ := wd_of hj
    exact h i j h1 h2 hpq
  · obtain ⟨h1, rfl⟩ := wd_of hk
    exact hA k h1
/-- the nest's links, of which the words don't speak -/
def NWs (F : List (String × Nat × String × String × String × String)) (M : List (String × Nat × MethodName × String)) (U : State) : Prop := (∀ q ∈ F, va_Nw (.fieldLinkNest q.1 q.2.1 q.2.2.1 q.2.2.2.1 q.2.2.2.2.1 q.2.2.2.2.2) U) ∧ ∀ q ∈ M, va_Nw (.methodLinkNest q.1 q.2.1 q.2.2.1 q.2.2.2) U
theorem NWs.warm {F : List (String × Nat × String × String × String × String)} {M : List (String × Nat × MethodName × String)} {s U : State} (hW : s.WarmedH U.vm) (h : NWs F M s) : NWs F M U := ⟨fun q hq => va_Nw.warmF hW (h.1 q hq), fun q hq => va_Nw.warmM hW (h.2 q hq)⟩
theorem NWs.same {F : List (String × Nat × String × String × String × String)} {M : List (String × Nat × MethodName × String)} {s U : State} (hv : s.vm = U.vm) (h : NWs F M s) : NWs F M U := ⟨fun q hq => va_Nw.same rfl hv (h.1 q hq), fun q hq => va_Nw.same rfl hv (h.2 q hq)⟩
/-- the array classes: of ints, of longs, of streams, of fillings -/
def tyL (g : Nat → ClassId) : List (ClassId × FieldType) := [(g 0, .int), (g 1, .long), (g 2, .object "UpDrain$Stream"), (g 3, .object "UpDrain$Filling")]
/-- what stands still: the classes, the array classes, the nest's links -/
def SC (D : va_G) (g : Nat → ClassId) (U : State) : Prop := va_K D vwCl (tyL g) U ∧ NWs nwF nwM U ∧ va_AO "UpDrain$Stream" U ∧ va_AO "UpDrain$Filling" U
theorem SC.warm {D : va_G} {g : Nat → ClassId} {s U : State} (hW : s.WarmedH U.vm) (h : SC D g s) : SC D g U := ⟨va_K.moved hW.alike h.1, h.2.1.warm hW, h.2.2.1.moved hW.alike, h.2.2.2.moved hW.alike⟩
theorem SC.call {D : va_G} {g : Nat → ClassId} {U : State} {f : JFrame} {mk : MethodId} {a : Array Value} (h : SC D g U) : SC D g (U.calling f mk a) := ⟨va_K.moved (Vm.Alike.refl U.vm) h.1, h.2.1.same rfl, h.2.2.1.moved (Vm.Alike.refl U.vm), h.2.2.2.moved (Vm.Alike.refl U.vm)⟩
abbrev aI (g : Nat → ClassId) (n : Nat) (f : Nat → Int32) : va_E := .inl (g 0, n, .inl f)
abbrev aL (g : Nat → ClassId) (n : Nat) (f : Nat → Int64) : va_E := .inl (g 1, n, .inr (.inl f))
abbrev aS (g : Nat → ClassId) (n : Nat) (f : Nat → Option Nat) : va_E := .inl (g 2, n, .inr (.inr (.inr (.inr f))))
abbrev aF (g : Nat → ClassId) (n : Nat) (f : Nat → Option Nat) : va_E := .inl (g 3, n, .inr (.inr (.inr (.inr f))))
/-! what a walk answers, as functions: none where the machine would throw -/
def lt {α β : Type} (a : α) (k : α → β) : β := k a
theorem lt_e {α β : Type} {a : α} {k : α → β} {r : β} (h : lt a k = r) : ∃ x : α, x = a ∧ k x = r := ⟨a, rfl, h⟩
def ri {R : Type} (f : Nat → Int32) (n : Nat) (i : Int32) (k : Int32 → Option R) : Option R := if i < 0 ∨ n ≤ i.toNatClampNeg then none else k (f i.toNatClampNeg)
theorem ri_e {R : Type} {f : Nat → Int32} {n : Nat} {i : Int32} {k : Int32 → Option R} {r : R} (h : ri f n i k = some r) : vp_in i n ∧ ∃ x : Int32, x = f i.toNatClampNeg ∧ k x = some r := by
  unfold ri at h
  split at h
  · cases h
  · rename_i q
    exact ⟨q, _, rfl, h⟩
def rl {R : Type} (f : Nat → Int64) (n : Nat) (i : Int32) (k : Int64 → Option R) : Option R := if i < 0 ∨ n ≤ i.toNatClampNeg then none else k (f i.toNatClampNeg)
theorem rl_e {R : Type} {f : Nat → Int64} {n : Nat} {i : Int32} {k : Int64 → Option R} {r : R} (h : rl f n i k = some r) : vp_in i n ∧ ∃ x : Int64, x = f i.toNatClampNeg ∧ k x = some r := by
  unfold rl at h
  split at h
  · cases h
  · rename_i q
    exact ⟨q, _, rfl, h⟩
def ix {R : Type} (n : Nat) (i : Int32) (k : Nat → Option R) : Option R := if i < 0 ∨ n ≤ i.toNatClampNeg then none else k i.toNatClampNeg
theorem ix_e {R : Type} {n : Nat} {i : Int32} {k : Nat → Option R} {r : R} (h : ix n i k = some r) : vp_in i n ∧ k i.toNatClampNeg = some r := by
  unfold ix at h
  split at h
  · cases h
  · rename_i q
    exact ⟨q, h⟩
def wi {R : Type} (f : Nat → Int32) (n : Nat) (i : Int32) (x : Int32) (k : (Nat → Int32) → Option R) : Option R := if i < 0 ∨ n ≤ i.toNatClampNeg then none else k (upd f i.toNatClampNeg x)
theorem wi_e {R : Type} {f : Nat → Int32} {n : Nat} {i : Int32} {x : Int32} {k : (Nat → Int32) → Option R} {r : R} (h : wi f n i x k = some r) : vp_in i n ∧ ∃ f' : Nat → Int32, f' = upd f i.toNatClampNeg x ∧ k f' = some r := by
  unfold wi at h
  split at h
  · cases h
  · rename_i q
    exact ⟨q, _, rfl, h⟩
def wl {R : Type} (f : Nat → Int64) (n : Nat) (i : Int32) (x : Int64) (k : (Nat → Int64) → Option R) : Option R := if i < 0 ∨ n ≤ i.toNatClampNeg then none else k (vp_updL f i.toNatClampNeg x)
theorem wl_e {R : Type} {f : Nat → Int64} {n : Nat} {i : Int32} {x : Int64} {k : (Nat → Int64) → Option R} {r : R} (h : wl f n i x k = some r) : vp_in i n ∧ ∃ f' : Nat → Int64, f' = vp_updL f i.toNatClampNeg x ∧ k f' = some r := by
  unfold wl at h
  split at h
  · cases h
  · rename_i q
    exact ⟨q, _, rfl, h⟩
/-- a divisor that isn't 0 -/
def nz {R : Type} (y : Int32) (k : Option R) : Option R := if y = 0 then none else k
theorem nz_e {R : Type} {y : Int32} {k : Option R} {r : R} (h : nz y k = some r) : ¬ y = 0 ∧ k = some r := by
  unfold nz at h
  split at h
  · cases h
  · rename_i q
    exact ⟨q, h⟩
def nzl {R : Type} (y : Int64) (k : Option R) : Option R := if y = 0 then none else k
theorem nzl_e {R : Type} {y : Int64} {k : Option R} {r : R} (h : nzl y k = some r) : ¬ y = 0 ∧ k = some r := by
  unfold nzl at h
  split at h
  · cases h
  · rename_i q
    exact ⟨q, h⟩
/-- a truth value -/
def bq {R : Type} (y : Int32) (k : Option R) : Option R := if y = 0 ∨ y = 1 then k else none
theorem bq_e {R : Type} {y : Int32} {k : Option R} {r : R} (h : bq y k = some r) : (y = 0 ∨ y = 1) ∧ k = some r := by
  unfold bq at h
  split at h
  · rename_i q
    exact ⟨q, h⟩
  · cases h
theorem bd_e {A R : Type} {o : Option A} {k : A → Option R} {r : R} (h : o.bind k = some r) : ∃ q : A, o = some q ∧ k q = some r := by
  cases o with
  | none => cases h
  | some a => exact ⟨a, rfl, h⟩
theorem it_e {R : Type} {c : Prop} [Decidable c] {a b r : Option R} (hc : c) (h : (if c then a else b) = r) : a = r := by rw [if_pos hc] at h; exact h
theorem ie_e {R : Type} {c : Prop} [Decidable c] {a b r : Option R} (hc : ¬ c) (h : (if c then a else b) = r) : b = r := by rw [if_neg hc] at h; exact h
theorem FU_ex : ∃ n : Nat, n = 6000 := ⟨6000, rfl⟩
/-- how often a loop may go round -/
def FU : Nat := 6000
/-- 0 or 1 -/
def bz (r : Int32) : Prop := r = 0 ∨ r = 1
theorem bz0 : bz 0 := Or.inl rfl
theorem bz1 : bz 1 := Or.inr rfl
theorem bz_n {r : Int32} (h : bz r) : narrow .boolean (.int r) = .int r := by
  rcases h with rfl | rfl <;> rfl
theorem bz_f {r : Int32} (h : bz r) : fits .boolean (.int r) = true := by
  rcases h with rfl | rfl <;> rfl
def tP (_ : Int32) : Prop := True
theorem tP_i (r : Int32) : tP r := trivial
def PcW (D : va_G) (g : Nat → ClassId) (N : Nat) (ad : Nat → Nat) (C : Nat → va_E) (sz : Nat) (av : List Value) : Array Value → State → Prop := va_Pc av (fun U => U.heap.size = sz ∧ SC D g U ∧ va_P D vwCl (wd N ad C) U.heap)
def PcS (sz : Nat) (av : List Value) : Array Value → State → Prop := va_Pc av (fun U => U.heap.size = sz)
def QiR (sz : Nat) (P : Int32 → Prop) (r : Int32) : Array Value → State → Outcome → State → Prop := va_Qi (fun r' (_ : Unit) => r' = r ∧ P r') (fun _ _ => True) (An sz)
def QlR (sz : Nat) (r : Int64) : Array Value → State → Outcome → State → Prop := va_Ql (fun r' (_ : Unit) => r' = r) (fun _ _ => True) (An sz)
def QiW (D : va_G) (N : Nat) (ad : Nat → Nat) (sz : Nat) (P : Int32 → Prop) (r : Int32) (Post : (Nat → va_E) → Prop) : Array Value → State → Outcome → State → Prop := va_Qi (fun r' (_ : Unit) => r' = r ∧ P r') (fun _ t => ∃ C', va_P D vwCl (wd N ad C') t.heap ∧ Post C') (Aw N ad sz)
def QlW (D : va_G) (N : Nat) (ad : Nat → Nat) (sz : Nat) (r : Int64) (Post : (Nat → va_E) → Prop) : Array Value → State → Outcome → State → Prop := va_Ql (fun r' (_ : Unit) => r' = r) (fun _ t => ∃ C', va_P D vwCl (wd N ad C') t.heap ∧ Post C') (Aw N ad sz)
def QvW (D : va_G) (N : Nat) (ad : Nat → Nat) (sz : Nat) (Post : (Nat → va_E) → Prop) : Array Value → State → Outcome → State → Prop := va_Qv (fun (_ : Unit) => True) (fun _ t => ∃ C', va_P D vwCl (wd N ad C') t.heap ∧ Post C') (Aw N ad sz)
theorem PcW_bl (D : va_G) (g : Nat → ClassId) (N : Nat) (ad : Nat → Nat) (C : Nat → va_E) (sz : Nat) (av : List Value) : FrameBlind (PcW D g N ad C sz av) := fun a U f mk q => by
  obtain ⟨q0, q1, q2, q3⟩ := q
  exact ⟨q0, q1, q2.call, q3⟩
theorem PcS_bl (sz : Nat) (av : List Value) : FrameBlind (PcS sz av) := fun a U f mk q => by
  obtain ⟨q0, q1⟩ := q
  exact ⟨q0, q1⟩
theorem preV_of {s : State} {H : Heap} {D : va_G} {g : Nat → ClassId} {N : Nat} {ad : Nat → Nat} {C : Nat → va_E} {As : List Value} {j ci : Nat} {fs : List Value} {q : vw_C} (hK : SC D g s) (hP : va_P D vwCl (wd N ad C) H) (hj : j < N) (hc : C j = .inr (ci, fs)) (hcl : vwCl[ci]? = some q) : PreV s H q.1 (ad j) (PcW D g N ad C H.size (.ref (ad j) :: As)) As :=
  ⟨PcW_bl _ _ _ _ _ _ _, va_recv hK.1 hP hcl (wd_at hj hc), fun U hU hW => ⟨rfl, by rw [hU], hK.warm hW, by rw [hU]; exact hP⟩⟩
theorem preS_of {s : State} {H : Heap} {D : va_G} {g : Nat → ClassId} {N : Nat} {ad : Nat → Nat} {C : Nat → va_E} {As : List Value} (hK : SC D g s) (hP : va_P D vwCl (wd N ad C) H) : PreS s H (PcW D g N ad C H.size As) As :=
  ⟨PcW_bl _ _ _ _ _ _ _, fun U hU hW => ⟨rfl, by rw [hU], hK.warm hW, by rw [hU]; exact hP⟩⟩
theorem preS0 {s : State} {H : Heap} {As : List Value} : PreS s H (PcS H.size As) As :=
  ⟨PcS_bl _ _, fun U hU hW => ⟨rfl, by show U.heap.size = H.size; rw [hU]⟩⟩
section RW
variable {p : Program} {l : Launch} {e : Env} {R : Room} {s : State} {m : MethodId} {args : Array Value} {below : List Frame} {meth : Method} {c : Code} {H : Heap} {locs : List Loc} {cells slots : Nat} {Q : State → Prop} {cc : ByteArray} {pc : Nat} {ls : Array Slot} {rest st0 : List Value} {D : va_G} {g : Nat → ClassId} {N : Nat} {ad : Nat → Nat} {C : Nat → va_E} {A : Nat → Prop} {j : Nat}
theorem tp_i {x y : Int32} (h : y = x) (k : W p l e R s m args below meth c H locs cells slots Q (F0 m pc ls (.int y :: rest))) : W p l e R s m args below meth c H locs cells slots Q (F0 m pc ls (.int x :: rest)) := h ▸ k
theorem tp_l {x y : Int64} (h : y = x) (k : W p l e R s m args below meth c H locs cells slots Q (F0 m pc ls (.long y :: rest))) : W p l e R s m args below meth c H locs cells slots Q (F0 m pc ls (.long x :: rest)) := h ▸ k
theorem r_get (hx : p.tables.exec = Jvm.exec) (hb : c.code = cc) {own Cn : String} {T : u_T} {n ci index : Nat} {Ts : List Cond} (hts : ∀ w ∈ Ts, w.before args s = true) (hin : ∀ w ∈ u_ws Cn T n, w ∈ Ts) (hown : s.vm.findClass own = some m.cls) (hK : SC D g s) (hP : va_P D vwCl (wd N ad C) H) (hj : j < N) {fs : List Value} (hc : C j = .inr (ci, fs)) (hcl : vwCl[ci]? = some (Cn, T, n)) (k : Nat) (hk : k < n) (hlink : (Cond.fieldLink own index (T k).1 (T k).2.1 (T k).2.2.1).before args s = true) {v : Value} (hv : fs[k]? = some v) (hdg : decode cc pc = .ok (.getfield index, 3))
    (kk : W p l e R s m args below meth c H locs cells slots Q (F0 m (pc + 3) ls (v :: rest))) : W p l e R s m args below meth c H locs cells slots Q (F0 m pc ls (.ref (ad j) :: rest)) :=
  va_get hx hb hts hin hown hK.1 hP j (wd_at hj hc) hcl k hk hlink (fun _ h => h) hv hdg kk
theorem r_getN (hx : p.tables.exec = Jvm.exec) (hb : c.code = cc) {own Cn host : String} {T : u_T} {n ci index : Nat} {Ts : List Cond} (hts : ∀ w ∈ Ts, w.before args s = true) (hin : ∀ w ∈ u_ws Cn T n, w ∈ Ts) (hown : s.vm.findClass own = some m.cls) (hK : SC D g s) (hP : va_P D vwCl (wd N ad C) H) (hj : j < N) {fs : List Value} (hc : C j = .inr (ci, fs)) (hcl : vwCl[ci]? = some (Cn, T, n)) (k : Nat) (hk : k < n) (hlink : (Cond.fieldLinkNest own index (T k).1 (T k).2.1 (T k).2.2.1 host).before args s = true) {v : Value} (hv : fs[k]? = some v) (hdg : decode cc pc = .ok (.getfield index, 3))
    (kk : W p l e R s m args below meth c H locs cells slots Q (F0 m (pc + 3) ls (v :: rest))) : W p l e R s m args below meth c H locs cells slots Q (F0 m pc ls (.ref (ad j) :: rest)) :=
  va_getN hx hb hts hin hown hK.1 hP j (wd_at hj hc) hcl k hk hlink (fun _ h => h) hv hdg kk
theorem r_put (hx : p.tables.exec = Jvm.exec) (hb : c.code = cc) {own Cn : String} {T : u_T} {n ci index : Nat} {Ts : List Cond} (hts : ∀ w ∈ Ts, w.before args s = true) (hin : ∀ w ∈ u_ws Cn T n, w ∈ Ts) (ty0 : Nat → FieldType) (hty : ∀ k, k < n → parseFieldDescriptor (T k).2.2.1 = some (ty0 k)) (hnm : ∀ a, a < n → ∀ b, b < n → a ≠ b → (T a).2.1 ≠ (T b).2.1) (hown : s.vm.findClass own = some m.cls) (hK : SC D g s) (hI : Inj N ad) (hAd : ∀ j : Nat, j < N → A (ad j)) (hP : va_P D vwCl (wd N ad C) H) (hS : va_S A s.heap H locs) (hj : j < N) {fs : List Value} (hc : C j = .inr (ci, fs)) (hcl : vwCl[ci]? = some (Cn, T, n)) (k : Nat) (hk : k < n) (hlink : (Cond.fieldLink own index (T k).1 (T k).2.1 (T k).2.2.1).before args s = true) (hfin : (T k).2.2.2 = false) {v : Value} (hn : narrow (ty0 k) v = v) (hfit : fits (ty0 k) v = true) (hl : k < fs.length) (hdg : decode cc pc = .ok (.putfield index, 3))
    (kk : ∀ (C1 : Nat → va_E) (H1 : Heap) (locs1 : List Loc), va_P D vwCl (wd N ad C1) H1 → va_S A s.heap H1 locs1 → (∀ i, i ≠ j → C1 i = C i) → C1 j = .inr (ci, fs.set k v) → W p l e R s m args below meth c H1 locs1 cells slots Q (F0 m (pc + 3) ls rest)) : W p l e R s m args below meth c H locs cells slots Q (F0 m pc ls (v :: .ref (ad j) :: rest)) :=
  va_put hx hb hts hin ty0 hty hnm hown hK.1 hP (hI.Da hAd C) hS j (wd_at hj hc) hcl k hk hlink (fun _ h => h) hfin (hty k hk) hn hfit hl hdg (fun H1 locs1 hP1 _ hS1 => kk (va_up C j (.inr (ci, fs.set k v))) H1 locs1 (by rw [wd_set hj] at hP1; exact hP1) hS1 (fun i hi => va_up_ne _ _ hi) (va_up_self ..))
theorem r_iald (hx : p.tables.exec = Jvm.exec) (hb : c.code = cc) (hK : SC D g s) (hP : va_P D vwCl (wd N ad C) H) (hj : j < N) {n : Nat} {f : Nat → Int32} (hc : C j = aI g n f) {i : Int32} (hin : vp_in i n) (hdg : decode cc pc = .ok (.iaload, 1)) {x : Int32} (hx2 : x = f i.toNatClampNeg)
    (kk : W p l e R s m args below meth c H locs cells slots Q (F0 m (pc + 1) ls (.int x :: rest))) : W p l e R s m args below meth c H locs cells slots Q (F0 m pc ls (.int i :: .ref (ad j) :: rest)) :=
  va_iald hx hb hK.1 hP j 0 (wd_at hj hc) rfl hin hdg (hx2 ▸ kk)
theorem r_lald (hx : p.tables.exec = Jvm.exec) (hb : c.code = cc) (hK : SC D g s) (hP : va_P D vwCl (wd N ad C) H) (hj : j < N) {n : Nat} {f : Nat → Int64} (hc : C j = aL g n f) {i : Int32} (hin : vp_in i n) (hdg : decode cc pc = .ok (.laload, 1)) {x : Int64} (hx2 : x = f i.toNatClampNeg)
    (kk : W p l e R s m args below meth c H locs cells slots Q (F0 m (pc + 1) ls (.long x :: rest))) : W p l e R s m args below meth c H locs cells slots Q (F0 m pc ls (.int i :: .ref (ad j) :: rest)) :=
  va_lald hx hb hK.1 hP j 1 (wd_at hj hc) rfl hin hdg (hx2 ▸ kk)
theorem r_aldS (hx : p.tables.exec = Jvm.exec) (hb : c.code = cc) (hK : SC D g s) (hP : va_P D vwCl (wd N ad C) H) (hj : j < N) {n : Nat} {f : Nat → Option Nat} (hc : C j = aS g n f) {i : Int32} (hin : vp_in i n) (hdg : decode cc pc = .ok (.aaload, 1))
    (kk : W p l e R s m args below meth c H locs cells slots Q (F0 m (pc + 1) ls (va_rf (f i.toNatClampNeg) :: rest))) : W p l e R s m args below meth c H locs cells slots Q (F0 m pc ls (.int i :: .ref (ad j) :: rest)) :=
  va_aldq hx hb hK.1 hP j 2 (wd_at hj hc) rfl hin hdg kk
theorem r_aldF (hx : p.tables.exec = Jvm.exec) (hb : c.code = cc) (hK : SC D g s) (hP : va_P D vwCl (wd N ad C) H) (hj : j < N) {n : Nat} {f : Nat → Option Nat} (hc : C j = aF g n f) {i : Int32} (hin : vp_in i n) (hdg : decode cc pc = .ok (.aaload, 1))
    (kk : W p l e R s m args below meth c H locs cells slots Q (F0 m (pc + 1) ls (va_rf (f i.toNatClampNeg) :: rest))) : W p l e R s m args below meth c H locs cells slots Q (F0 m pc ls (.int i :: .ref (ad j) :: rest)) :=
  va_aldq hx hb hK.1 hP j 3 (wd_at hj hc) rfl hin hdg kk
theorem r_iast (hx : p.tables.exec = Jvm.exec) (hb : c.code = cc) (hK : SC D g s) (hI : Inj N ad) (hAd : ∀ j : Nat, j < N → A (ad j)) (hP : va_P D vwCl (wd N ad C) H) (hS : va_S A s.heap H locs) (hj : j < N) {n : Nat} {f : Nat → Int32} (hc : C j = aI g n f) {i x : Int32} (hin : vp_in i n) (hdg : decode cc pc = .ok (.iastore, 1)) {f' : Nat → Int32} (hf' : f' = upd f i.toNatClampNeg x)
    (kk : ∀ (C1 : Nat → va_E) (H1 : Heap) (locs1 : List Loc), va_P D vwCl (wd N ad C1) H1 → va_S A s.heap H1 locs1 → (∀ i, i ≠ j → C1 i = C i) → C1 j = aI g n f' → W p l e R s m args below meth c H1 locs1 cells slots Q (F0 m (pc + 1) ls rest)) : W p l e R s m args below meth c H locs cells slots Q (F0 m pc ls (.int x :: .int i :: .ref (ad j) :: rest)) := by
  subst hf'
  exact va_iast hx hb hK.1 hP (hI.Da hAd C) hS j 0 (wd_at hj hc) rfl hin hdg (fun H1 locs1 hP1 _ hS1 => kk (va_up C j (aI g n (upd f i.toNatClampNeg x))) H1 locs1 (by rw [wd_set hj] at hP1; exact hP1) hS1 (fun i hi => va_up_ne _ _ hi) (va_up_self ..))
theorem r_last (hx : p.tables.exec = Jvm.exec) (hb : c.code = cc) (hK : SC D g s) (hI : Inj N ad) (hAd : ∀ j : Nat, j < N → A (ad j)) (hP : va_P D vwCl (wd N ad C) H) (hS : va_S A s.heap H locs) (hj : j < N) {n : Nat} {f : Nat → Int64} (hc : C j = aL g n f) {i : Int32} {x : Int64} (hin : vp_in i n) (hdg : decode cc pc = .ok (.lastore, 1)) {f' : Nat → Int64} (hf' : f' = vp_updL f i.toNatClampNeg x)
    (kk : ∀ (C1 : Nat → va_E) (H1 : Heap) (locs1 : List Loc), va_P D vwCl (wd N ad C1) H1 → va_S A s.heap H1 locs1 → (∀ i, i ≠ j → C1 i = C i) → C1 j = aL g n f' → W p l e R s m args below meth c H1 locs1 cells slots Q (F0 m (pc + 1) ls rest)) : W p l e R s m args below meth c H locs cells slots Q (F0 m pc ls (.long x :: .int i :: .ref (ad j) :: rest)) := by
  subst hf'
  exact va_last hx hb hK.1 hP (hI.Da hAd C) hS j 1 (wd_at hj hc) rfl hin hdg (fun H1 locs1 hP1 _ hS1 => kk (va_up C j (aL g n (vp_updL f i.toNatClampNeg x))) H1 locs1 (by rw [wd_set hj] at hP1; exact hP1) hS1 (fun i hi => va_up_ne _ _ hi) (va_up_self ..))
theorem r_alen (hx : p.tables.exec = Jvm.exec) (hb : c.code = cc) (hK : SC D g s) (hP : va_P D vwCl (wd N ad C) H) (hj : j < N) {n : Nat} {f : Nat → Int32} (hc : C j = aI g n f) (hdg : decode cc pc = .ok (.arraylength, 1))
    (kk : W p l e R s m args below meth c H locs cells slots Q (F0 m (pc + 1) ls (.int (nI n) :: rest))) : W p l e R s m args below meth c H locs cells slots Q (F0 m pc ls (.ref (ad j) :: rest)) :=
  va_alen hx hb hK.1 hP j 0 (wd_at hj hc) rfl rfl hdg kk
/-! behind a call -/
theorem k_keep {H1 : Heap} (hP : va_P D vwCl (wd N ad C) H) (hk : ∀ q : Nat, q < H.size → ¬ An H.size q → H1[q]? = H[q]?) : va_P D vwCl (wd N ad C) H1 := hP.kept (fun k q hq => hk q.1 (hP k q hq).lt (Nat.not_le.mpr (hP k q hq).lt))
theorem k_iR {a : Array Value} {P : Int32 → Prop} {r : Int32} (hr : va_Run p l e R s m args below meth c H locs cells slots 0 0 (F0 m pc ls st0) rest (QiR H.size P r a) (An H.size)) (hA : ∀ q, s.heap.size ≤ q → A q) (hP : va_P D vwCl (wd N ad C) H) (hS : va_S A s.heap H locs)
    (kk : ∀ (H1 : Heap) (locs1 : List Loc), va_P D vwCl (wd N ad C) H1 → va_S A s.heap H1 locs1 → P r → W p l e R s m args below meth c H1 locs1 cells slots Q (F0 m (pc + 3) ls (.int r :: rest))) : W p l e R s m args below meth c H locs cells slots Q (F0 m pc ls st0) :=
  va_calli hr hS (fun q _ h => hA q (Nat.le_trans hS.1 h)) (fun q h => hA q (Nat.le_trans hS.1 h)) (fun r' u t H1 locs1 ht hvm hp hb hz hk hS1 => by
    obtain ⟨rfl, hp⟩ := hp
    exact kk H1 locs1 (k_keep hP hk) hS1 hp)
/-- a call in a method that has no world -/
theorem k_i0 {a : Array Value} {P : Int32 → Prop} {r : Int32} (hr : va_Run p l e R s m args below meth c H locs cells slots 0 0 (F0 m pc ls st0) rest (QiR H.size P r a) (An H.size)) (hA : ∀ q, s.heap.size ≤ q → A q) (hS : va_S A s.heap H locs)
    (kk : ∀ (H1 : Heap) (locs1 : List Loc), va_S A s.heap H1 locs1 → P r → W p l e R s m args below meth c H1 locs1 cells slots Q (F0 m (pc + 3) ls (.int r :: rest))) : W p l e R s m args below meth c H locs cells slots Q (F0 m pc ls st0) :=
  va_calli hr hS (fun q _ h => hA q (Nat.le_trans hS.1 h)) (fun q h => hA q (Nat.le_trans hS.1 h)) (fun r' u t H1 locs1 ht hvm hp hb hz hk hS1 => by
    obtain ⟨rfl, hp⟩ := hp
    exact kk H1 locs1 hS1 hp)
theorem k_lR {a : Array Value} {r : Int64} (hr : va_Run p l e R s m args below meth c H locs cells slots 0 0 (F0 m pc ls st0) rest (QlR H.size r a) (An H.size)) (hA : ∀ q, s.heap.size ≤ q → A q) (hP : va_P D vwCl (wd N ad C) H) (hS : va_S A s.heap H locs)
    (kk : ∀ (H1 : Heap) (locs1 : List Loc), va_P D vwCl (wd N ad C) H1 → va_S A s.heap H1 locs1 → W p l e R s m args below meth c H1 locs1 cells slots Q (F0 m (pc + 3) ls (.long r :: rest))) : W p l e R s m args below meth c H locs cells slots Q (F0 m pc ls st0) :=
  va_calll hr hS (fun q _ h => hA q (Nat.le_trans hS.1 h)) (fun q h => hA q (Nat.le_trans hS.1 h)) (fun r' u t H1 locs1 ht hvm hp hb hz hk hS1 => by
    subst hp
    exact kk H1 locs1 (k_keep hP hk) hS1)
theorem k_l0 {a : Array Value} {r : Int64} (hr : va_Run p l e R s m args below meth c H locs cells slots 0 0 (F0 m pc ls st0) rest (QlR H.size r a) (An H.size)) (hA : ∀ q, s.heap.size ≤ q → A q) (hS : va_S A s.heap H locs)
    (kk : ∀ (H1 : Heap) (locs1 : List Loc), va_S A s.heap H1 locs1 → W p l e R s m args below meth c H1 locs1 cells slots Q (F0 m (pc + 3) ls (.long r :: rest))) : W p l e R s m args below meth c H locs cells slots Q (F0 m pc ls st0) :=
  va_calll hr hS (fun q _ h => hA q (Nat.le_trans hS.1 h)) (fun q h => hA q (Nat.le_trans hS.1 h)) (fun r' u t H1 locs1 ht hvm hp hb hz hk hS1 => by
    subst hp
    exact kk H1 locs1 hS1)
theorem Aw_le {sz sz' : Nat} (h : sz ≤ sz') {q : Nat} (hq : Aw N ad sz' q) : Aw N ad sz q := hq.elim Or.inl (fun h2 => Or.inr (Nat.le_trans h h2))
theorem Aw_to {sz sz0 : Nat} (hA : ∀ q, sz0 ≤ q → A q) (hAd : ∀ j : Nat, j < N → A (ad j)) (h : sz0 ≤ sz) {q : Nat} (hq : Aw N ad sz q) : A q := by
  rcases hq with ⟨j, hj, rfl⟩ | h2
  · exact hAd j hj
  · exact hA q (Nat.le_trans h h2)
theorem k_iW {a : Array Value} {P : Int32 → Prop} {r : Int32} {Post : (Nat → va_E) → Prop} (hr : va_Run p l e R s m args below meth c H locs cells slots 0 0 (F0 m pc ls st0) rest (QiW D N ad H.size P r Post a) (Aw N ad H.size)) (hA : ∀ q, s.heap.size ≤ q → A q) (hAd : ∀ j : Nat, j < N → A (ad j)) (hS : va_S A s.heap H locs)
    (kk : ∀ (C1 : Nat → va_E) (H1 : Heap) (locs1 : List Loc), va_P D vwCl (wd N ad C1) H1 → va_S A s.heap H1 locs1 → Post C1 → P r → W p l e R s m args below meth c H1 locs1 cells slots Q (F0 m (pc + 3) ls (.int r :: rest))) : W p l e R s m args below meth c H locs cells slots Q (F0 m pc ls st0) :=
  va_calli hr hS (fun q _ h => Aw_to hA hAd hS.1 h) (fun q h => Aw_to hA hAd hS.1 h) (fun r' u t H1 locs1 ht hvm hp hb hz hk hS1 => by
    obtain ⟨rfl, hp⟩ := hp
    obtain ⟨C1, hP1, hpo⟩ := hb
    rw [ht] at hP1
    exact kk C1 H1 locs1 hP1 hS1 hpo hp)
theorem k_lW {a : Array Value} {r : Int64} {Post : (Nat → va_E) → Prop} (hr : va_Run p l e R s m args below meth c H locs cells slots 0 0 (F0 m pc ls st0) rest (QlW D N ad H.size r Post a) (Aw N ad H.size)) (hA : ∀ q, s.heap.size ≤ q → A q) (hAd : ∀ j : Nat, j < N → A (ad j)) (hS : va_S A s.heap H locs)
    (kk : ∀ (C1 : Nat → va_E) (H1 : Heap) (locs1 : List Loc), va_P D vwCl (wd N ad C1) H1 → va_S A s.heap H1 locs1 → Post C1 → W p l e R s m args below meth c H1 locs1 cells slots Q (F0 m (pc + 3) ls (.long r :: rest))) : W p l e R s m args below meth c H locs cells slots Q (F0 m pc ls st0) :=
  va_calll hr hS (fun q _ h => Aw_to hA hAd hS.1 h) (fun q h => Aw_to hA hAd hS.1 h) (fun r' u t H1 locs1 ht hvm hp hb hz hk hS1 => by
    subst hp
    obtain ⟨C1, hP1, hpo⟩ := hb
    rw [ht] at hP1
    exact kk C1 H1 locs1 hP1 hS1 hpo)
theorem k_vW {a : Array Value} {Post : (Nat → va_E) → Prop} (hr : va_Run p l e R s m args below meth c H locs cells slots 0 0 (F0 m pc ls st0) rest (QvW D N ad H.size Post a) (Aw N ad H.size)) (hA : ∀ q, s.heap.size ≤ q → A q) (hAd : ∀ j : Nat, j < N → A (ad j)) (hS : va_S A s.heap H locs)
    (kk : ∀ (C1 : Nat → va_E) (H1 : Heap) (locs1 : List Loc), va_P D vwCl (wd N ad C1) H1 → va_S A s.heap H1 locs1 → Post C1 → W p l e R s m args below meth c H1 locs1 cells slots Q (F0 m (pc + 3) ls rest)) : W p l e R s m args below meth c H locs cells slots Q (F0 m pc ls st0) :=
  va_callv hr hS (fun q _ h => Aw_to hA hAd hS.1 h) (fun q h => Aw_to hA hAd hS.1 h) (fun u t H1 locs1 ht hvm hp hb hz hk hS1 => by
    obtain ⟨C1, hP1, hpo⟩ := hb
    rw [ht] at hP1
    exact kk C1 H1 locs1 hP1 hS1 hpo)
/-! a method's end -/
theorem e_iR {P : Int32 → Prop} {r v : Int32} (hx : p.tables.exec = Jvm.exec) (hb : c.code = cc) (hr : meth.sig.returnType = some .int) (hv : v = r) (hp : P v) (hS : va_S (An s.heap.size) s.heap H locs) (hlocks : meth.locks = false) (hdg : decode cc pc = .ok (.ireturn, 1)) : W p l e R s m args below meth c H locs 0 0 (MQ below (QiR s.heap.size P r) args s 0 0 (An s.heap.size)) (F0 m pc ls [.int v]) :=
  W.iret hx hb hr (fun t ht hW => ⟨⟨v, (), rfl, ⟨hv, hp⟩, trivial⟩, hS.F ht⟩) hS.2.2 hdg hlocks
theorem e_zR {r v : Int32} (hx : p.tables.exec = Jvm.exec) (hb : c.code = cc) (hr : meth.sig.returnType = some .boolean) (hv : v = r) (hp : bz v) (hS : va_S (An s.heap.size) s.heap H locs) (hlocks : meth.locks = false) (hdg : decode cc pc = .ok (.ireturn, 1)) : W p l e R s m args below meth c H locs 0 0 (MQ below (QiR s.heap.size bz r) args s 0 0 (An s.heap.size)) (F0 m pc ls [.int v]) :=
  W.zret hx hb hr (bz_n hp) (fun t ht hW => ⟨⟨v, (), rfl, ⟨hv, hp⟩, trivial⟩, hS.F ht⟩) hS.2.2 hdg hlocks
theorem e_lR {r v : Int64} (hx : p.tables.exec = Jvm.exec) (hb : c.code = cc) (hr : meth.sig.returnType = some .long) (hv : v = r) (hS : va_S (An s.heap.size) s.heap H locs) (hlocks : meth.locks = false) (hdg : decode cc pc = .ok (.lreturn, 1)) : W p l e R s m args below meth c H locs 0 0 (MQ below (QlR s.heap.size r) args s 0 0 (An s.heap.size)) (F0 m pc ls [.long v]) :=
  W.lret hx hb hr (fun t ht hW => ⟨⟨v, (), rfl, hv, trivial⟩, hS.F ht⟩) hS.2.2 hdg hlocks
theorem e_iW {P : Int32 → Prop} {r v : Int32} {Post : (Nat → va_E) → Prop} (hx : p.tables.exec = Jvm.exec) (hb : c.code = cc) (hr : meth.sig.returnType = some .int) (hv : v = r) (hp : P v) (hP : va_P D vwCl (wd N ad C) H) (hS : va_S (Aw N ad s.heap.size) s.heap H locs) (hpo : Post C) (hlocks : meth.locks = false) (hdg : decode cc pc = .ok (.ireturn, 1)) : W p l e R s m args below meth c H locs 0 0 (MQ below (QiW D N ad s.heap.size P r Post) args s 0 0 (Aw N ad s.heap.size)) (F0 m pc ls [.int v]) :=
  W.iret hx hb hr (fun t ht hW => ⟨⟨v, (), rfl, ⟨hv, hp⟩, C, by rw [ht]; exact hP, hpo⟩, hS.F ht⟩) hS.2.2 hdg hlocks
theorem e_zW {r v : Int32} {Post : (Nat → va_E) → Prop} (hx : p.tables.exec = Jvm.exec) (hb : c.code = cc) (hr : meth.sig.returnType = some .boolean) (hv : v = r) (hp : bz v) (hP : va_P D vwCl (wd N ad C) H) (hS : va_S (Aw N ad s.heap.size) s.heap H locs) (hpo : Post C) (hlocks : meth.locks = false) (hdg : decode cc pc = .ok (.ireturn, 1)) : W p l e R s m args below meth c H locs 0 0 (MQ below (QiW D N ad s.heap.size bz r Post) args s 0 0 (Aw N ad s.heap.size)) (F0 m pc ls [.int v]) :=
  W.zret hx hb hr (bz_n hp) (fun t ht hW => ⟨⟨v, (), rfl, ⟨hv, hp⟩, C, by rw [ht]; exact hP, hpo⟩, hS.F ht⟩) hS.2.2 hdg hlocks
theorem e_lW {r v : Int64} {Post : (Nat → va_E) → Prop} (hx : p.tables.exec = Jvm.exec) (hb : c.code = cc) (hr : meth.sig.returnType = some .long) (hv : v = r) (hP : va_P D vwCl (wd N ad C) H) (hS : va_S (Aw N ad s.heap.size) s.heap H locs) (hpo : Post C) (hlocks : meth.locks = false) (hdg : decode cc pc = .ok (.lreturn, 1)) : W p l e R s m args below meth c H locs 0 0 (MQ below (QlW D N ad s.heap.size r Post) args s 0 0 (Aw N ad s.heap.size)) (F0 m pc ls [.long v]) :=
  W.lret hx hb hr (fun t ht hW => ⟨⟨v, (), rfl, hv, C, by rw [ht]; exact hP, hpo⟩, hS.F ht⟩) hS.2.2 hdg hlocks
theorem e_vW {Post : (Nat → va_E) → Prop} (hx : p.tables.exec = Jvm.exec) (hb : c.code = cc) (hr : meth.sig.returnType = none) (hP : va_P D vwCl (wd N ad C) H) (hS : va_S (Aw N ad s.heap.size) s.heap H locs) (hpo : Post C) (hlocks : meth.locks = false) (hdg : decode cc pc = .ok (.return_, 1)) : W p l e R s m args below meth c H locs 0 0 (MQ below (QvW D N ad s.heap.size Post) args s 0 0 (Aw N ad s.heap.size)) (F0 m pc ls []) :=
  W.vret hx hb hr (fun t ht hW => ⟨⟨(), rfl, trivial, C, by rw [ht]; exact hP, hpo⟩, hS.F ht⟩) hS.2.2 hdg hlocks
end RW
theorem ne_toInt {x k : Int32} (h : ¬ x = k) : x.toInt ≠ k.toInt := fun e => h (Int32.toInt_inj.mp e)
/-! pools: the streams (an object b, its rows b + 1, b + 2), the fillings -/
def isSB (b : Nat) : Prop := (24 ≤ b ∧ b < 60 ∧ b % 3 = 0) ∨ b = 62
def isFB (b : Nat) : Prop := (67 ≤ b ∧ b ≤ 76) ∨ b = 85
theorem isSB_u {b : Nat} (h : isSB b) : (24 ≤ b ∧ b < 60 ∧ b % 3 = 0) ∨ b = 62 := h
theorem isFB_u {b : Nat} (h : isFB b) : (67 ≤ b ∧ b ≤ 76) ∨ b = 85 := h
theorem isSB_i {j : Nat} (h : j < 12) : isSB (24 + 3 * j) := by unfold isSB; omega
theorem isFB_i {j : Nat} (h : j < 10) : isFB (67 + j) := by unfold isFB; omega
theorem isSB_t : isSB 62 := Or.inr rfl
theorem isFB_a : isFB 85 := Or.inr rfl
theorem isSB_0 {b N : Nat} (hN : 86 ≤ N) (h : isSB b) : b < N := by unfold isSB at h; omega
theorem isSB_1 {b N : Nat} (hN : 86 ≤ N) (h : isSB b) : b + 1 < N := by unfold isSB at h; omega
theorem isSB_2 {b N : Nat} (hN : 86 ≤ N) (h : isSB b) : b + 2 < N := by unfold isSB at h; omega
theorem isFB_0 {b N : Nat} (hN : 86 ≤ N) (h : isFB b) : b < N := by unfold isFB at h; omega
theorem vp_lt {i : Int32} {n : Nat} (h : vp_in i n) : i.toNatClampNeg < n := Nat.not_le.mp fun q => h (Or.inr q)
def PoolS (g : Nat → ClassId) (ad : Nat → Nat) (C : Nat → va_E) (sL sT : Nat → Nat → Int32) (sF sU : Nat → Int32) : Prop := ∀ b : Nat, isSB b → C b = .inr (4, [.ref (ad (b + 1)), .ref (ad (b + 2)), .int (sF b), .int (sU b)]) ∧ C (b + 1) = aI g 12 (sL b) ∧ C (b + 2) = aI g 12 (sT b)
def PoolF (C : Nat → va_E) (fC fS fM fT fY : Nat → Int32) : Prop := ∀ b : Nat, isFB b → C b = .inr (1, [.int (fC b), .int (fS b), .int (fM b), .int (fT b), .int (fY b)])
theorem PoolS.ne {g : Nat → ClassId} {ad : Nat → Nat} {C C' : Nat → va_E} {sL sT : Nat → Nat → Int32} {sF sU : Nat → Int32} (h : PoolS g ad C sL sT sF sU) (he : ∀ i, 24 ≤ i → (i < 60 ∨ (62 ≤ i ∧ i < 65)) → C' i = C i) : PoolS g ad C' sL sT sF sU := fun b hb => by
  obtain ⟨h1, h2, h3⟩ := h b hb
  have hb2 := isSB_u hb
  exact ⟨(he b (by omega) (by omega)).trans h1, (he (b + 1) (by omega) (by omega)).trans h2, (he (b + 2) (by omega) (by omega)).trans h3⟩
theorem PoolF.ne {C C' : Nat → va_E} {fC fS fM fT fY : Nat → Int32} (h : PoolF C fC fS fM fT fY) (he : ∀ i, ((67 ≤ i ∧ i ≤ 76) ∨ i = 85) → C' i = C i) : PoolF C' fC fS fM fT fY := fun b hb => (he b hb).trans (h b hb)
theorem PoolS.setL {g : Nat → ClassId} {ad : Nat → Nat} {C C' : Nat → va_E} {sL sT : Nat → Nat → Int32} {sF sU f : Nat → Int32} {b : Nat} (h : PoolS g ad C sL sT sF sU) (hb : isSB b) (he : ∀ i, i ≠ b + 1 → C' i = C i) (hn : C' (b + 1) = aI g 12 f) : PoolS g ad C' (va_up sL b f) sT sF sU := fun a ha => by
  obtain ⟨h1, h2, h3⟩ := h a ha
  have q1 := isSB_u ha
  have q2 := isSB_u hb
  refine ⟨(he a (by omega)).trans h1, ?_, (he (a + 2) (by omega)).trans h3⟩
  by_cases e : a = b
  · subst e
    rw [hn, va_up_self]
  · rw [he (a + 1) (by omega), h2, va_up_ne _ _ e]
theorem PoolS.setT {g : Nat → ClassId} {ad : Nat → Nat} {C C' : Nat → va_E} {sL sT : Nat → Nat → Int32} {sF sU f : Nat → Int32} {b : Nat} (h : PoolS g ad C sL sT sF sU) (hb : isSB b) (he : ∀ i, i ≠ b + 2 → C' i = C i) (hn : C' (b + 2) = aI g 12 f) : PoolS g ad C' sL (va_up sT b f) sF sU := fun a ha => by
  obtain ⟨h1, h2, h3⟩ := h a ha
  have q1 := isSB_u ha
  have q2 := isSB_u hb
  refine ⟨(he a (by omega)).trans h1, (he (a + 1) (by omega)).trans h2, ?_⟩
  by_cases e : a = b
  · subst e
    rw [hn, va_up_self]
  · rw [he (a + 2) (by omega), h3, va_up_ne _ _ e]
theorem PoolS.setF {g : Nat → ClassId} {ad : Nat → Nat} {C C' : Nat → va_E} {sL sT : Nat → Nat → Int32} {sF sU : Nat → Int32} {v : Int32} {b : Nat} (h : PoolS g ad C sL sT sF sU) (hb : isSB b) (he : ∀ i, i ≠ b → C' i = C i) (hn : C' b = .inr (4, [.ref (ad (b + 1)), .ref (ad (b + 2)), .int v, .int (sU b)])) : PoolS g ad C' sL sT (va_up sF b v) sU := fun a ha => by
  obtain ⟨h1, h2, h3⟩ := h a ha
  have q1 := isSB_u ha
  have q2 := isSB_u hb
  refine ⟨?_, (he (a + 1) (by omega)).trans h2, (he (a + 2) (by omega)).trans h3⟩
  by_cases e : a = b
  · subst e
    rw [hn, va_up_self]
  · rw [he a e, h1, va_up_ne _ _ e]
theorem PoolS.setU {g : Nat → ClassId} {ad : Nat → Nat} {C C' : Nat → va_E} {sL sT : Nat → Nat → Int32} {sF sU : Nat → Int32} {v : Int32} {b : Nat} (h : PoolS g ad C sL sT sF sU) (hb : isSB b) (he : ∀ i, i ≠ b → C' i = C i) (hn : C' b = .inr (4, [.ref (ad (b + 1)), .ref (ad (b + 2)), .int (sF b), .int v])) : PoolS g ad C' sL sT sF (va_up sU b v) := fun a ha => by
  obtain ⟨h1, h2, h3⟩ := h a ha
  have q1 := isSB_u ha
  have q2 := isSB_u hb
  refine ⟨?_, (he (a + 1) (by omega)).trans h2, (he (a + 2) (by omega)).trans h3⟩
  by_cases e : a = b
  · subst e
    rw [hn, va_up_self]
  · rw [he a e, h1, va_up_ne _ _ e]
theorem PoolF.setC {C C' : Nat → va_E} {fC fS fM fT fY : Nat → Int32} {v : Int32} {b : Nat} (h : PoolF C fC fS fM fT fY) (hb : isFB b) (he : ∀ i, i ≠ b → C' i = C i) (hn : C' b = .inr (1, [.int v, .int (fS b), .int (fM b), .int (fT b), .int (fY b)])) : PoolF C' (va_up fC b v) fS fM fT fY := fun a ha => by
  by_cases e : a = b
  · subst e
    rw [hn, va_up_self]
  · rw [he a e, h a ha, va_up_ne _ _ e]
theorem PoolF.setS {C C' : Nat → va_E} {fC fS fM fT fY : Nat → Int32} {v : Int32} {b : Nat} (h : PoolF C fC fS fM fT fY) (hb : isFB b) (he : ∀ i, i ≠ b → C' i = C i) (hn : C' b = .inr (1, [.int (fC b), .int v, .int (fM b), .int (fT b), .int (fY b)])) : PoolF C' fC (va_up fS b v) fM fT fY := fun a ha => by
  by_cases e : a = b
  · subst e
    rw [hn, va_up_self]
  · rw [he a e, h a ha, va_up_ne _ _ e]
theorem PoolF.setM {C C' : Nat → va_E} {fC fS fM fT fY : Nat → Int32} {v : Int32} {b : Nat} (h : PoolF C fC fS fM fT fY) (hb : isFB b) (he : ∀ i, i ≠ b → C' i = C i) (hn : C' b = .inr (1, [.int (fC b), .int (fS b), .int v, .int (fT b), .int (fY b)])) : PoolF C' fC fS (va_up fM b v) fT fY := fun a ha => by
  by_cases e : a = b
  · subst e
    rw [hn, va_up_self]
  · rw [he a e, h a ha, va_up_ne _ _ e]
theorem PoolF.setT {C C' : Nat → va_E} {fC fS fM fT fY : Nat → Int32} {v : Int32} {b : Nat} (h : PoolF C fC fS fM fT fY) (hb : isFB b) (he : ∀ i, i ≠ b → C' i = C i) (hn : C' b = .inr (1, [.int (fC b), .int (fS b), .int (fM b), .int v, .int (fY b)])) : PoolF C' fC fS fM (va_up fT b v) fY := fun a ha => by
  by_cases e : a = b
  · subst e
    rw [hn, va_up_self]
  · rw [he a e, h a ha, va_up_ne _ _ e]
theorem PoolF.setY {C C' : Nat → va_E} {fC fS fM fT fY : Nat → Int32} {v : Int32} {b : Nat} (h : PoolF C fC fS fM fT fY) (hb : isFB b) (he : ∀ i, i ≠ b → C' i = C i) (hn : C' b = .inr (1, [.int (fC b), .int (fS b), .int (fM b), .int (fT b), .int v])) : PoolF C' fC fS fM fT (va_up fY b v) := fun a ha => by
  by_cases e : a = b
  · subst e
    rw [hn, va_up_self]
  · rw [he a e, h a ha, va_up_ne _ _ e]
/-! a reference that may be null -/
def om {R : Type} (o : Option Nat) (a : Option R) (k : Nat → Option R) : Option R := match o with
  | none => a
  | some b => k b
theorem om_c (o : Option Nat) : o = none ∨ ∃ b : Nat, o = some b := by
  cases o with
  | none => exact Or.inl rfl
  | some b => exact Or.inr ⟨b, rfl⟩
theorem om_n {R : Type} {o : Option Nat} {a : Option R} {k : Nat → Option R} {r : Option R} (h : o = none) (hf : om o a k = r) : a = r := by subst h; exact hf
theorem om_s {R : Type} {o : Option Nat} {a : Option R} {k : Nat → Option R} {r : Option R} {b : Nat} (h : o = some b) (hf : om o a k = r) : k b = r := by subst h; exact hf
theorem oS_s {b : Nat} (h : isSB b) : ∀ a : Nat, some b = some a → isSB a := fun a e => by cases e; exact h
theorem oS_n : ∀ a : Nat, none = some a → isSB a := fun a e => by cases e
section RWN
variable {p : Program} {l : Launch} {e : Env} {R : Room} {s : State} {m : MethodId} {args : Array Value} {below : List Frame} {meth : Method} {c : Code} {H : Heap} {locs : List Loc} {cells slots : Nat} {Q : State → Prop} {cc : ByteArray} {pc : Nat} {ls : Array Slot} {rest : List Value} {ad : Nat → Nat}
theorem r_alq_n (hx : p.tables.exec = Jvm.exec) (hb : c.code = cc) {k : Fin 4} {i : Nat} {r : Option Nat} (hdg : decode cc pc = .ok (.aload_n k, 1)) (hi : (k : Nat) = i) (hl : ls[i]? = some (.val (va_rf r))) (kk : W p l e R s m args below meth c H locs cells slots Q (F0 m (pc + 1) ls (va_rf r :: rest))) : W p l e R s m args below meth c H locs cells slots Q (F0 m pc ls rest) := by
  cases r with
  | none => exact lv_aload_nN hx hb hdg hi hl kk
  | some a => exact lv_aload_n hx hb hdg hi hl kk
theorem r_alq (hx : p.tables.exec = Jvm.exec) (hb : c.code = cc) {i : Nat} {r : Option Nat} (hdg : decode cc pc = .ok (.aload i, 2)) (hl : ls[i]? = some (.val (va_rf r))) (kk : W p l e R s m args below meth c H locs cells slots Q (F0 m (pc + 2) ls (va_rf r :: rest))) : W p l e R s m args below meth c H locs cells slots Q (F0 m pc ls rest) := by
  cases r with
  | none => exact lv_aloadN hx hb hdg hl kk
  | some a => exact lv_aload hx hb hdg hl kk
theorem r_rfs {r : Option Nat} {b : Nat} (h : r = some b) (k : W p l e R s m args below meth c H locs cells slots Q (F0 m pc ls (.ref (ad b) :: rest))) : W p l e R s m args below meth c H locs cells slots Q (F0 m pc ls (va_rf (Option.map ad r) :: rest)) := by subst h; exact k
theorem r_rfn {r : Option Nat} (h : r = none) (k : W p l e R s m args below meth c H locs cells slots Q (F0 m pc ls (.null :: rest))) : W p l e R s m args below meth c H locs cells slots Q (F0 m pc ls (va_rf (Option.map ad r) :: rest)) := by subst h; exact k
end RWN
theorem nf_0 {D : va_G} {g : Nat → ClassId} {U : State} {A : Array Value} (h : SC D g U) : (Cond.fieldLinkNest "UpDrain" 101 "UpDrain$Text" "kinds" "[I" "UpDrain").before A U = true := va_Nw.use rfl (h.2.1.1 ("UpDrain", 101, "UpDrain$Text", "kinds", "[I", "UpDrain") (List.mem_of_getElem? (i := 0) rfl))
theorem nf_1 {D : va_G} {g : Nat → ClassId} {U : State} {A : Array Value} (h : SC D g U) : (Cond.fieldLinkNest "UpDrain" 105 "UpDrain$Text" "numbers" "[I" "UpDrain").before A U = true := va_Nw.use rfl (h.2.1.1 ("UpDrain", 105, "UpDrain$Text", "numbers", "[I", "UpDrain") (List.mem_of_getElem? (i := 1) rfl))
theorem nf_2 {D : va_G} {g : Nat → ClassId} {U : State} {A : Array Value} (h : SC D g U) : (Cond.fieldLinkNest "UpDrain" 83 "UpDrain$Text" "length" "I" "UpDrain").before A U = true := va_Nw.use rfl (h.2.1.1 ("UpDrain", 83, "UpDrain$Text", "length", "I", "UpDrain") (List.mem_of_getElem? (i := 2) rfl))
theorem nf_3 {D : va_G} {g : Nat → ClassId} {U : State} {A : Array Value} (h : SC D g U) : (Cond.fieldLinkNest "UpDrain" 98 "UpDrain$Text" "lines" "I" "UpDrain").before A U = true := va_Nw.use rfl (h.2.1.1 ("UpDrain", 98, "UpDrain$Text", "lines", "I", "UpDrain") (List.mem_of_getElem? (i := 3) rfl))
theorem nf_4 {D : va_G} {g : Nat → ClassId} {U : State} {A : Array Value} (h : SC D g U) : (Cond.fieldLinkNest "UpDrain$Stream" 33 "UpDrain$Town" "down" "[I" "UpDrain").before A U = true := va_Nw.use rfl (h.2.1.1 ("UpDrain$Stream", 33, "UpDrain$Town", "down", "[I", "UpDrain") (List.mem_of_getElem? (i := 4) rfl))
theorem nf_5 {D : va_G} {g : Nat → ClassId} {U : State} {A : Array Value} (h : SC D g U) : (Cond.fieldLinkNest "UpDrain$Ways" 39 "UpDrain$Town" "down" "[I" "UpDrain").before A U = true := va_Nw.use rfl (h.2.1.1 ("UpDrain$Ways", 39, "UpDrain$Town", "down", "[I", "UpDrain") (List.mem_of_getElem? (i := 5) rfl))
theorem nf_6 {D : va_G} {g : Nat → ClassId} {U : State} {A : Array Value} (h : SC D g U) : (Cond.fieldLinkNest "UpDrain" 116 "UpDrain$Town" "down" "[I" "UpDrain").before A U = true := va_Nw.use rfl (h.2.1.1 ("UpDrain", 116, "UpDrain$Town", "down", "[I", "UpDrain") (List.mem_of_getElem? (i := 6) rfl))
theorem nf_7 {D : va_G} {g : Nat → ClassId} {U : State} {A : Array Value} (h : SC D g U) : (Cond.fieldLinkNest "UpDrain$Hunt" 84 "UpDrain$Town" "down" "[I" "UpDrain").before A U = true := va_Nw.use rfl (h.2.1.1 ("UpDrain$Hunt", 84, "UpDrain$Town", "down", "[I", "UpDrain") (List.mem_of_getElem? (i := 7) rfl))
theorem nf_8 {D : va_G} {g : Nat → ClassId} {U : State} {A : Array Value} (h : SC D g U) : (Cond.fieldLinkNest "UpDrain$Stream" 30 "UpDrain$Town" "minutes" "[I" "UpDrain").before A U = true := va_Nw.use rfl (h.2.1.1 ("UpDrain$Stream", 30, "UpDrain$Town", "minutes", "[I", "UpDrain") (List.mem_of_getElem? (i := 8) rfl))
theorem nf_9 {D : va_G} {g : Nat → ClassId} {U : State} {A : Array Value} (h : SC D g U) : (Cond.fieldLinkNest "UpDrain" 119 "UpDrain$Town" "minutes" "[I" "UpDrain").before A U = true := va_Nw.use rfl (h.2.1.1 ("UpDrain", 119, "UpDrain$Town", "minutes", "[I", "UpDrain") (List.mem_of_getElem? (i := 9) rfl))
theorem nf_10 {D : va_G} {g : Nat → ClassId} {U : State} {A : Array Value} (h : SC D g U) : (Cond.fieldLinkNest "UpDrain$Ways" 42 "UpDrain$Town" "paces" "[I" "UpDrain").before A U = true := va_Nw.use rfl (h.2.1.1 ("UpDrain$Ways", 42, "UpDrain$Town", "paces", "[I", "UpDrain") (List.mem_of_getElem? (i := 10) rfl))
theorem nf_11 {D : va_G} {g : Nat → ClassId} {U : State} {A : Array Value} (h : SC D g U) : (Cond.fieldLinkNest "UpDrain" 122 "UpDrain$Town" "paces" "[I" "UpDrain").before A U = true := va_Nw.use rfl (h.2.1.1 ("UpDrain", 122, "UpDrain$Town", "paces", "[I", "UpDrain") (List.mem_of_getElem? (i := 11) rfl))
theorem nf_12 {D : va_G} {g : Nat → ClassId} {U : State} {A : Array Value} (h : SC D g U) : (Cond.fieldLinkNest "UpDrain$Hunt" 89 "UpDrain$Town" "paces" "[I" "UpDrain").before A U = true := va_Nw.use rfl (h.2.1.1 ("UpDrain$Hunt", 89, "UpDrain$Town", "paces", "[I", "UpDrain") (List.mem_of_getElem? (i := 12) rfl))
theorem nf_13 {D : va_G} {g : Nat → ClassId} {U : State} {A : Array Value} (h : SC D g U) : (Cond.fieldLinkNest "UpDrain$Stream" 25 "UpDrain$Town" "gone" "[I" "UpDrain").before A U = true := va_Nw.use rfl (h.2.1.1 ("UpDrain$Stream", 25, "UpDrain$Town", "gone", "[I", "UpDrain") (List.mem_of_getElem? (i := 13) rfl))
theorem nf_14 {D : va_G} {g : Nat → ClassId} {U : State} {A : Array Value} (h : SC D g U) : (Cond.fieldLinkNest "UpDrain" 125 "UpDrain$Town" "gone" "[I" "UpDrain").before A U = true := va_Nw.use rfl (h.2.1.1 ("UpDrain", 125, "UpDrain$Town", "gone", "[I", "UpDrain") (List.mem_of_getElem? (i := 14) rfl))
theorem nf_15 {D : va_G} {g : Nat → ClassId} {U : State} {A : Array Value} (h : SC D g U) : (Cond.fieldLinkNest "UpDrain$Water" 62 "UpDrain$Town" "inflow" "[I" "UpDrain").before A U = true := va_Nw.use rfl (h.2.1.1 ("UpDrain$Water", 62, "UpDrain$Town", "inflow", "[I", "UpDrain") (List.mem_of_getElem? (i := 15) rfl))
theorem nf_16 {D : va_G} {g : Nat → ClassId} {U : State} {A : Array Value} (h : SC D g U) : (Cond.fieldLinkNest "UpDrain" 128 "UpDrain$Town" "inflow" "[I" "UpDrain").before A U = true := va_Nw.use rfl (h.2.1.1 ("UpDrain", 128, "UpDrain$Town", "inflow", "[I", "UpDrain") (List.mem_of_getElem? (i := 16) rfl))
theorem nf_17 {D : va_G} {g : Nat → ClassId} {U : State} {A : Array Value} (h : SC D g U) : (Cond.fieldLinkNest "UpDrain$Ways" 36 "UpDrain$Town" "likely" "[I" "UpDrain").before A U = true := va_Nw.use rfl (h.2.1.1 ("UpDrain$Ways", 36, "UpDrain$Town", "likely", "[I", "UpDrain") (List.mem_of_getElem? (i := 17) rfl))
theorem nf_18 {D : va_G} {g : Nat → ClassId} {U : State} {A : Array Value} (h : SC D g U) : (Cond.fieldLinkNest "UpDrain$DayWalk" 97 "UpDrain$Town" "likely" "[I" "UpDrain").before A U = true := va_Nw.use rfl (h.2.1.1 ("UpDrain$DayWalk", 97, "UpDrain$Town", "likely", "[I", "UpDrain") (List.mem_of_getElem? (i := 18) rfl))
theorem nf_19 {D : va_G} {g : Nat → ClassId} {U : State} {A : Array Value} (h : SC D g U) : (Cond.fieldLinkNest "UpDrain$Thoughts" 87 "UpDrain$Town" "likely" "[I" "UpDrain").before A U = true := va_Nw.use rfl (h.2.1.1 ("UpDrain$Thoughts", 87, "UpDrain$Town", "likely", "[I", "UpDrain") (List.mem_of_getElem? (i := 19) rfl))
theorem nf_20 {D : va_G} {g : Nat → ClassId} {U : State} {A : Array Value} (h : SC D g U) : (Cond.fieldLinkNest "UpDrain" 131 "UpDrain$Town" "likely" "[I" "UpDrain").before A U = true := va_Nw.use rfl (h.2.1.1 ("UpDrain", 131, "UpDrain$Town", "likely", "[I", "UpDrain") (List.mem_of_getElem? (i := 20) rfl))
theorem nf_21 {D : va_G} {g : Nat → ClassId} {U : State} {A : Array Value} (h : SC D g U) : (Cond.fieldLinkNest "UpDrain$Water" 49 "UpDrain$Town" "strength" "[I" "UpDrain").before A U = true := va_Nw.use rfl (h.2.1.1 ("UpDrain$Water", 49, "UpDrain$Town", "strength", "[I", "UpDrain") (List.mem_of_getElem? (i := 21) rfl))
theorem nf_22 {D : va_G} {g : Nat → ClassId} {U : State} {A : Array Value} (h : SC D g U) : (Cond.fieldLinkNest "UpDrain" 134 "UpDrain$Town" "strength" "[I" "UpDrain").before A U = true := va_Nw.use rfl (h.2.1.1 ("UpDrain", 134, "UpDrain$Town", "strength", "[I", "UpDrain") (List.mem_of_getElem? (i := 22) rfl))
theorem nf_23 {D : va_G} {g : Nat → ClassId} {U : State} {A : Array Value} (h : SC D g U) : (Cond.fieldLinkNest "UpDrain$Water" 52 "UpDrain$Town" "from" "[I" "UpDrain").before A U = true := va_Nw.use rfl (h.2.1.1 ("UpDrain$Water", 52, "UpDrain$Town", "from", "[I", "UpDrain") (List.mem_of_getElem? (i := 23) rfl))
theorem nf_24 {D : va_G} {g : Nat → ClassId} {U : State} {A : Array Value} (h : SC D g U) : (Cond.fieldLinkNest "UpDrain" 137 "UpDrain$Town" "from" "[I" "UpDrain").before A U = true := va_Nw.use rfl (h.2.1.1 ("UpDrain", 137, "UpDrain$Town", "from", "[I", "UpDrain") (List.mem_of_getElem? (i := 24) rfl))
theorem nf_25 {D : va_G} {g : Nat → ClassId} {U : State} {A : Array Value} (h : SC D g U) : (Cond.fieldLinkNest "UpDrain$Water" 55 "UpDrain$Town" "until" "[I" "UpDrain").before A U = true := va_Nw.use rfl (h.2.1.1 ("UpDrain$Water", 55, "UpDrain$Town", "until", "[I", "UpDrain") (List.mem_of_getElem? (i := 25) rfl))
theorem nf_26 {D : va_G} {g : Nat → ClassId} {U : State} {A : Array Value} (h : SC D g U) : (Cond.fieldLinkNest "UpDrain" 140 "UpDrain$Town" "until" "[I" "UpDrain").before A U = true := va_Nw.use rfl (h.2.1.1 ("UpDrain", 140, "UpDrain$Town", "until", "[I", "UpDrain") (List.mem_of_getElem? (i := 26) rfl))
theorem nf_27 {D : va_G} {g : Nat → ClassId} {U : State} {A : Array Value} (h : SC D g U) : (Cond.fieldLinkNest "UpDrain$Water" 65 "UpDrain$Town" "rain" "[I" "UpDrain").before A U = true := va_Nw.use rfl (h.2.1.1 ("UpDrain$Water", 65, "UpDrain$Town", "rain", "[I", "UpDrain") (List.mem_of_getElem? (i := 27) rfl))
theorem nf_28 {D : va_G} {g : Nat → ClassId} {U : State} {A : Array Value} (h : SC D g U) : (Cond.fieldLinkNest "UpDrain$Water" 90 "UpDrain$Town" "tells" "[I" "UpDrain").before A U = true := va_Nw.use rfl (h.2.1.1 ("UpDrain$Water", 90, "UpDrain$Town", "tells", "[I", "UpDrain") (List.mem_of_getElem? (i := 28) rfl))
theorem nf_29 {D : va_G} {g : Nat → ClassId} {U : State} {A : Array Value} (h : SC D g U) : (Cond.fieldLinkNest "UpDrain" 146 "UpDrain$Town" "tells" "[I" "UpDrain").before A U = true := va_Nw.use rfl (h.2.1.1 ("UpDrain", 146, "UpDrain$Town", "tells", "[I", "UpDrain") (List.mem_of_getElem? (i := 29) rfl))
theorem nf_30 {D : va_G} {g : Nat → ClassId} {U : State} {A : Array Value} (h : SC D g U) : (Cond.fieldLinkNest "UpDrain$DayWalk" 103 "UpDrain$Town" "wrongYes" "[I" "UpDrain").before A U = true := va_Nw.use rfl (h.2.1.1 ("UpDrain$DayWalk", 103, "UpDrain$Town", "wrongYes", "[I", "UpDrain") (List.mem_of_getElem? (i := 30) rfl))
theorem nf_31 {D : va_G} {g : Nat → ClassId} {U : State} {A : Array Value} (h : SC D g U) : (Cond.fieldLinkNest "UpDrain" 149 "UpDrain$Town" "wrongYes" "[I" "UpDrain").before A U = true := va_Nw.use rfl (h.2.1.1 ("UpDrain", 149, "UpDrain$Town", "wrongYes", "[I", "UpDrain") (List.mem_of_getElem? (i := 31) rfl))
theorem nf_32 {D : va_G} {g : Nat → ClassId} {U : State} {A : Array Value} (h : SC D g U) : (Cond.fieldLinkNest "UpDrain$Thoughts" 114 "UpDrain$Town" "wrongYes" "[I" "UpDrain").before A U = true := va_Nw.use rfl (h.2.1.1 ("UpDrain$Thoughts", 114, "UpDrain$Town", "wrongYes", "[I", "UpDrain") (List.mem_of_getElem? (i := 32) rfl))
theorem nf_33 {D : va_G} {g : Nat → ClassId} {U : State} {A : Array Value} (h : SC D g U) : (Cond.fieldLinkNest "UpDrain$DayWalk" 100 "UpDrain$Town" "wrongNo" "[I" "UpDrain").before A U = true := va_Nw.use rfl (h.2.1.1 ("UpDrain$DayWalk", 100, "UpDrain$Town", "wrongNo", "[I", "UpDrain") (List.mem_of_getElem? (i := 33) rfl))
theorem nf_34 {D : va_G} {g : Nat → ClassId} {U : State} {A : Array Value} (h : SC D g U) : (Cond.fieldLinkNest "UpDrain" 152 "UpDrain$Town" "wrongNo" "[I" "UpDrain").before A U = true := va_Nw.use rfl (h.2.1.1 ("UpDrain", 152, "UpDrain$Town", "wrongNo", "[I", "UpDrain") (List.mem_of_getElem? (i := 34) rfl))
theorem nf_35 {D : va_G} {g : Nat → ClassId} {U : State} {A : Array Value} (h : SC D g U) : (Cond.fieldLinkNest "UpDrain$Thoughts" 108 "UpDrain$Town" "wrongNo" "[I" "UpDrain").before A U = true := va_Nw.use rfl (h.2.1.1 ("UpDrain$Thoughts", 108, "UpDrain$Town", "wrongNo", "[I", "UpDrain") (List.mem_of_getElem? (i := 35) rfl))
theorem nf_36 {D : va_G} {g : Nat → ClassId} {U : State} {A : Array Value} (h : SC D g U) : (Cond.fieldLinkNest "UpDrain$Water" 39 "UpDrain$Town" "there" "I" "UpDrain").before A U = true := va_Nw.use rfl (h.2.1.1 ("UpDrain$Water", 39, "UpDrain$Town", "there", "I", "UpDrain") (List.mem_of_getElem? (i := 36) rfl))
theorem nf_37 {D : va_G} {g : Nat → ClassId} {U : State} {A : Array Value} (h : SC D g U) : (Cond.fieldLinkNest "UpDrain$Ways" 23 "UpDrain$Town" "there" "I" "UpDrain").before A U = true := va_Nw.use rfl (h.2.1.1 ("UpDrain$Ways", 23, "UpDrain$Town", "there", "I", "UpDrain") (List.mem_of_getElem? (i := 37) rfl))
theorem nf_38 {D : va_G} {g : Nat → ClassId} {U : State} {A : Array Value} (h : SC D g U) : (Cond.fieldLinkNest "UpDrain$Lids" 66 "UpDrain$Town" "there" "I" "UpDrain").before A U = true := va_Nw.use rfl (h.2.1.1 ("UpDrain$Lids", 66, "UpDrain$Town", "there", "I", "UpDrain") (List.mem_of_getElem? (i := 38) rfl))
theorem nf_39 {D : va_G} {g : Nat → ClassId} {U : State} {A : Array Value} (h : SC D g U) : (Cond.fieldLinkNest "UpDrain$Thoughts" 120 "UpDrain$Town" "there" "I" "UpDrain").before A U = true := va_Nw.use rfl (h.2.1.1 ("UpDrain$Thoughts", 120, "UpDrain$Town", "there", "I", "UpDrain") (List.mem_of_getElem? (i := 39) rfl))
theorem nf_40 {D : va_G} {g : Nat → ClassId} {U : State} {A : Array Value} (h : SC D g U) : (Cond.fieldLinkNest "UpDrain" 316 "UpDrain$Town" "there" "I" "UpDrain").before A U = true := va_Nw.use rfl (h.2.1.1 ("UpDrain", 316, "UpDrain$Town", "there", "I", "UpDrain") (List.mem_of_getElem? (i := 40) rfl))
theorem nf_41 {D : va_G} {g : Nat → ClassId} {U : State} {A : Array Value} (h : SC D g U) : (Cond.fieldLinkNest "UpDrain$DayWalk" 63 "UpDrain$Town" "lift" "I" "UpDrain").before A U = true := va_Nw.use rfl (h.2.1.1 ("UpDrain$DayWalk", 63, "UpDrain$Town", "lift", "I", "UpDrain") (List.mem_of_getElem? (i := 41) rfl))
theorem nf_42 {D : va_G} {g : Nat → ClassId} {U : State} {A : Array Value} (h : SC D g U) : (Cond.fieldLinkNest "UpDrain$Hunt" 99 "UpDrain$Town" "lift" "I" "UpDrain").before A U = true := va_Nw.use rfl (h.2.1.1 ("UpDrain$Hunt", 99, "UpDrain$Town", "lift", "I", "UpDrain") (List.mem_of_getElem? (i := 42) rfl))
theorem nf_43 {D : va_G} {g : Nat → ClassId} {U : State} {A : Array Value} (h : SC D g U) : (Cond.fieldLinkNest "UpDrain" 324 "UpDrain$Town" "lift" "I" "UpDrain").before A U = true := va_Nw.use rfl (h.2.1.1 ("UpDrain", 324, "UpDrain$Town", "lift", "I", "UpDrain") (List.mem_of_getElem? (i := 43) rfl))
theorem nf_44 {D : va_G} {g : Nat → ClassId} {U : State} {A : Array Value} (h : SC D g U) : (Cond.fieldLinkNest "UpDrain$Thoughts" 62 "UpDrain$Town" "none" "I" "UpDrain").before A U = true := va_Nw.use rfl (h.2.1.1 ("UpDrain$Thoughts", 62, "UpDrain$Town", "none", "I", "UpDrain") (List.mem_of_getElem? (i := 44) rfl))
theorem nf_45 {D : va_G} {g : Nat → ClassId} {U : State} {A : Array Value} (h : SC D g U) : (Cond.fieldLinkNest "UpDrain" 327 "UpDrain$Town" "none" "I" "UpDrain").before A U = true := va_Nw.use rfl (h.2.1.1 ("UpDrain", 327, "UpDrain$Town", "none", "I", "UpDrain") (List.mem_of_getElem? (i := 45) rfl))
theorem nf_46 {D : va_G} {g : Nat → ClassId} {U : State} {A : Array Value} (h : SC D g U) : (Cond.fieldLinkNest "UpDrain$Water" 30 "UpDrain$Ways" "over" "[I" "UpDrain").before A U = true := va_Nw.use rfl (h.2.1.1 ("UpDrain$Water", 30, "UpDrain$Ways", "over", "[I", "UpDrain") (List.mem_of_getElem? (i := 46) rfl))
theorem nf_47 {D : va_G} {g : Nat → ClassId} {U : State} {A : Array Value} (h : SC D g U) : (Cond.fieldLinkNest "UpDrain$DayWalk" 72 "UpDrain$Ways" "over" "[I" "UpDrain").before A U = true := va_Nw.use rfl (h.2.1.1 ("UpDrain$DayWalk", 72, "UpDrain$Ways", "over", "[I", "UpDrain") (List.mem_of_getElem? (i := 47) rfl))
theorem nf_48 {D : va_G} {g : Nat → ClassId} {U : State} {A : Array Value} (h : SC D g U) : (Cond.fieldLinkNest "UpDrain$Lids" 30 "UpDrain$Ways" "over" "[I" "UpDrain").before A U = true := va_Nw.use rfl (h.2.1.1 ("UpDrain$Lids", 30, "UpDrain$Ways", "over", "[I", "UpDrain") (List.mem_of_getElem? (i := 48) rfl))
theorem nf_49 {D : va_G} {g : Nat → ClassId} {U : State} {A : Array Value} (h : SC D g U) : (Cond.fieldLinkNest "UpDrain$Hunt" 57 "UpDrain$Ways" "over" "[I" "UpDrain").before A U = true := va_Nw.use rfl (h.2.1.1 ("UpDrain$Hunt", 57, "UpDrain$Ways", "over", "[I", "UpDrain") (List.mem_of_getElem? (i := 49) rfl))
theorem nf_50 {D : va_G} {g : Nat → ClassId} {U : State} {A : Array Value} (h : SC D g U) : (Cond.fieldLinkNest "UpDrain" 155 "UpDrain$Ways" "over" "[I" "UpDrain").before A U = true := va_Nw.use rfl (h.2.1.1 ("UpDrain", 155, "UpDrain$Ways", "over", "[I", "UpDrain") (List.mem_of_getElem? (i := 50) rfl))
theorem nf_51 {D : va_G} {g : Nat → ClassId} {U : State} {A : Array Value} (h : SC D g U) : (Cond.fieldLinkNest "UpDrain$DayWalk" 45 "UpDrain$Ways" "sources" "I" "UpDrain").before A U = true := va_Nw.use rfl (h.2.1.1 ("UpDrain$DayWalk", 45, "UpDrain$Ways", "sources", "I", "UpDrain") (List.mem_of_getElem? (i := 51) rfl))
theorem nf_52 {D : va_G} {g : Nat → ClassId} {U : State} {A : Array Value} (h : SC D g U) : (Cond.fieldLinkNest "UpDrain$Hunt" 33 "UpDrain$Ways" "sources" "I" "UpDrain").before A U = true := va_Nw.use rfl (h.2.1.1 ("UpDrain$Hunt", 33, "UpDrain$Ways", "sources", "I", "UpDrain") (List.mem_of_getElem? (i := 52) rfl))
theorem nf_53 {D : va_G} {g : Nat → ClassId} {U : State} {A : Array Value} (h : SC D g U) : (Cond.fieldLinkNest "UpDrain$Thoughts" 78 "UpDrain$Ways" "sources" "I" "UpDrain").before A U = true := va_Nw.use rfl (h.2.1.1 ("UpDrain$Thoughts", 78, "UpDrain$Ways", "sources", "I", "UpDrain") (List.mem_of_getElem? (i := 53) rfl))
theorem nf_54 {D : va_G} {g : Nat → ClassId} {U : State} {A : Array Value} (h : SC D g U) : (Cond.fieldLinkNest "UpDrain$Lids" 54 "UpDrain$Ways" "sources" "I" "UpDrain").before A U = true := va_Nw.use rfl (h.2.1.1 ("UpDrain$Lids", 54, "UpDrain$Ways", "sources", "I", "UpDrain") (List.mem_of_getElem? (i := 54) rfl))
theorem nf_55 {D : va_G} {g : Nat → ClassId} {U : State} {A : Array Value} (h : SC D g U) : (Cond.fieldLinkNest "UpDrain" 261 "UpDrain$Ways" "sources" "I" "UpDrain").before A U = true := va_Nw.use rfl (h.2.1.1 ("UpDrain", 261, "UpDrain$Ways", "sources", "I", "UpDrain") (List.mem_of_getElem? (i := 55) rfl))
theorem nf_56 {D : va_G} {g : Nat → ClassId} {U : State} {A : Array Value} (h : SC D g U) : (Cond.fieldLinkNest "UpDrain$Thoughts" 91 "UpDrain$Water" "streams" "[LUpDrain$Stream;" "UpDrain").before A U = true := va_Nw.use rfl (h.2.1.1 ("UpDrain$Thoughts", 91, "UpDrain$Water", "streams", "[LUpDrain$Stream;", "UpDrain") (List.mem_of_getElem? (i := 56) rfl))
theorem nf_57 {D : va_G} {g : Nat → ClassId} {U : State} {A : Array Value} (h : SC D g U) : (Cond.fieldLinkNest "UpDrain" 171 "UpDrain$Water" "streams" "[LUpDrain$Stream;" "UpDrain").before A U = true := va_Nw.use rfl (h.2.1.1 ("UpDrain", 171, "UpDrain$Water", "streams", "[LUpDrain$Stream;", "UpDrain") (List.mem_of_getElem? (i := 57) rfl))
theorem nf_58 {D : va_G} {g : Nat → ClassId} {U : State} {A : Array Value} (h : SC D g U) : (Cond.fieldLinkNest "UpDrain$Water" 93 "UpDrain$Filling" "cup" "I" "UpDrain").before A U = true := va_Nw.use rfl (h.2.1.1 ("UpDrain$Water", 93, "UpDrain$Filling", "cup", "I", "UpDrain") (List.mem_of_getElem? (i := 58) rfl))
theorem nf_59 {D : va_G} {g : Nat → ClassId} {U : State} {A : Array Value} (h : SC D g U) : (Cond.fieldLinkNest "UpDrain$Thoughts" 111 "UpDrain$Filling" "cup" "I" "UpDrain").before A U = true := va_Nw.use rfl (h.2.1.1 ("UpDrain$Thoughts", 111, "UpDrain$Filling", "cup", "I", "UpDrain") (List.mem_of_getElem? (i := 59) rfl))
theorem nf_60 {D : va_G} {g : Nat → ClassId} {U : State} {A : Array Value} (h : SC D g U) : (Cond.fieldLinkNest "UpDrain$Water" 83 "UpDrain$Filling" "set" "I" "UpDrain").before A U = true := va_Nw.use rfl (h.2.1.1 ("UpDrain$Water", 83, "UpDrain$Filling", "set", "I", "UpDrain") (List.mem_of_getElem? (i := 60) rfl))
theorem nf_61 {D : va_G} {g : Nat → ClassId} {U : State} {A : Array Value} (h : SC D g U) : (Cond.fieldLinkNest "UpDrain$Water" 80 "UpDrain$Filling" "minute" "I" "UpDrain").before A U = true := va_Nw.use rfl (h.2.1.1 ("UpDrain$Water", 80, "UpDrain$Filling", "minute", "I", "UpDrain") (List.mem_of_getElem? (i := 61) rfl))
theorem nf_62 {D : va_G} {g : Nat → ClassId} {U : State} {A : Array Value} (h : SC D g U) : (Cond.fieldLinkNest "UpDrain$Water" 75 "UpDrain$Filling" "times" "I" "UpDrain").before A U = true := va_Nw.use rfl (h.2.1.1 ("UpDrain$Water", 75, "UpDrain$Filling", "times", "I", "UpDrain") (List.mem_of_getElem? (i := 62) rfl))
theorem nf_63 {D : va_G} {g : Nat → ClassId} {U : State} {A : Array Value} (h : SC D g U) : (Cond.fieldLinkNest "UpDrain$Thoughts" 117 "UpDrain$Filling" "yes" "Z" "UpDrain").before A U = true := va_Nw.use rfl (h.2.1.1 ("UpDrain$Thoughts", 117, "UpDrain$Filling", "yes", "Z", "UpDrain") (List.mem_of_getElem? (i := 63) rfl))
theorem nf_64 {D : va_G} {g : Nat → ClassId} {U : State} {A : Array Value} (h : SC D g U) : (Cond.fieldLinkNest "UpDrain" 225 "UpDrain$Thoughts" "ofOne" "[J" "UpDrain").before A U = true := va_Nw.use rfl (h.2.1.1 ("UpDrain", 225, "UpDrain$Thoughts", "ofOne", "[J", "UpDrain") (List.mem_of_getElem? (i := 64) rfl))
theorem nf_65 {D : va_G} {g : Nat → ClassId} {U : State} {A : Array Value} (h : SC D g U) : (Cond.fieldLinkNest "UpDrain" 239 "UpDrain$Thoughts" "ofTwo" "[J" "UpDrain").before A U = true := va_Nw.use rfl (h.2.1.1 ("UpDrain", 239, "UpDrain$Thoughts", "ofTwo", "[J", "UpDrain") (List.mem_of_getElem? (i := 65) rfl))
theorem nf_66 {D : va_G} {g : Nat → ClassId} {U : State} {A : Array Value} (h : SC D g U) : (Cond.fieldLinkNest "UpDrain" 222 "UpDrain$Thoughts" "ofNone" "J" "UpDrain").before A U = true := va_Nw.use rfl (h.2.1.1 ("UpDrain", 222, "UpDrain$Thoughts", "ofNone", "J", "UpDrain") (List.mem_of_getElem? (i := 66) rfl))
theorem nf_67 {D : va_G} {g : Nat → ClassId} {U : State} {A : Array Value} (h : SC D g U) : (Cond.fieldLinkNest "UpDrain" 216 "UpDrain$Thoughts" "allOfOne" "J" "UpDrain").before A U = true := va_Nw.use rfl (h.2.1.1 ("UpDrain", 216, "UpDrain$Thoughts", "allOfOne", "J", "UpDrain") (List.mem_of_getElem? (i := 67) rfl))
theorem nf_68 {D : va_G} {g : Nat → ClassId} {U : State} {A : Array Value} (h : SC D g U) : (Cond.fieldLinkNest "UpDrain" 236 "UpDrain$Thoughts" "allOfTwo" "J" "UpDrain").before A U = true := va_Nw.use rfl (h.2.1.1 ("UpDrain", 236, "UpDrain$Thoughts", "allOfTwo", "J", "UpDrain") (List.mem_of_getElem? (i := 68) rfl))
theorem nf_69 {D : va_G} {g : Nat → ClassId} {U : State} {A : Array Value} (h : SC D g U) : (Cond.fieldLinkNest "UpDrain" 196 "UpDrain$Thoughts" "size" "I" "UpDrain").before A U = true := va_Nw.use rfl (h.2.1.1 ("UpDrain", 196, "UpDrain$Thoughts", "size", "I", "UpDrain") (List.mem_of_getElem? (i := 69) rfl))
theorem nf_70 {D : va_G} {g : Nat → ClassId} {U : State} {A : Array Value} (h : SC D g U) : (Cond.fieldLinkNest "UpDrain" 258 "UpDrain$Hunt" "fewestLids" "[I" "UpDrain").before A U = true := va_Nw.use rfl (h.2.1.1 ("UpDrain", 258, "UpDrain$Hunt", "fewestLids", "[I", "UpDrain") (List.mem_of_getElem? (i := 70) rfl))
theorem nf_71 {D : va_G} {g : Nat → ClassId} {U : State} {A : Array Value} (h : SC D g U) : (Cond.fieldLinkNest "UpDrain" 267 "UpDrain$Hunt" "leastSum" "[I" "UpDrain").before A U = true := va_Nw.use rfl (h.2.1.1 ("UpDrain", 267, "UpDrain$Hunt", "leastSum", "[I", "UpDrain") (List.mem_of_getElem? (i := 71) rfl))
theorem nf_72 {D : va_G} {g : Nat → ClassId} {U : State} {A : Array Value} (h : SC D g U) : (Cond.fieldLinkNest "UpDrain" 273 "UpDrain$Hunt" "leastMinutes" "[I" "UpDrain").before A U = true := va_Nw.use rfl (h.2.1.1 ("UpDrain", 273, "UpDrain$Hunt", "leastMinutes", "[I", "UpDrain") (List.mem_of_getElem? (i := 72) rfl))
theorem nf_73 {D : va_G} {g : Nat → ClassId} {U : State} {A : Array Value} (h : SC D g U) : (Cond.fieldLinkNest "UpDrain" 305 "UpDrain$DayWalk" "minutes" "I" "UpDrain").before A U = true := va_Nw.use rfl (h.2.1.1 ("UpDrain", 305, "UpDrain$DayWalk", "minutes", "I", "UpDrain") (List.mem_of_getElem? (i := 73) rfl))
theorem nf_74 {D : va_G} {g : Nat → ClassId} {U : State} {A : Array Value} (h : SC D g U) : (Cond.fieldLinkNest "UpDrain" 307 "UpDrain$DayWalk" "guessed" "I" "UpDrain").before A U = true := va_Nw.use rfl (h.2.1.1 ("UpDrain", 307, "UpDrain$DayWalk", "guessed", "I", "UpDrain") (List.mem_of_getElem? (i := 74) rfl))
theorem nf_75 {D : va_G} {g : Nat → ClassId} {U : State} {A : Array Value} (h : SC D g U) : (Cond.fieldLinkNest "UpDrain" 310 "UpDrain$DayWalk" "source" "I" "UpDrain").before A U = true := va_Nw.use rfl (h.2.1.1 ("UpDrain", 310, "UpDrain$DayWalk", "source", "I", "UpDrain") (List.mem_of_getElem? (i := 75) rfl))
theorem nf_76 {D : va_G} {g : Nat → ClassId} {U : State} {A : Array Value} (h : SC D g U) : (Cond.fieldLinkNest "UpDrain" 313 "UpDrain$DayWalk" "lifted" "I" "UpDrain").before A U = true := va_Nw.use rfl (h.2.1.1 ("UpDrain", 313, "UpDrain$DayWalk", "lifted", "I", "UpDrain") (List.mem_of_getElem? (i := 76) rfl))
theorem nm_0 {D : va_G} {g : Nat → ClassId} {U : State} (h : SC D g U) : va_Nw (.methodLinkNest "UpDrain" 9 ⟨"UpDrain$Text", "<init>", "()V"⟩ "UpDrain") U := h.2.1.2 ("UpDrain", 9, ⟨"UpDrain$Text", "<init>", "()V"⟩, "UpDrain") (List.mem_of_getElem? (i := 0) rfl)
theorem nm_1 {D : va_G} {g : Nat → ClassId} {U : State} (h : SC D g U) : va_Nw (.methodLinkNest "UpDrain$Water" 29 ⟨"UpDrain$Stream", "<init>", "()V"⟩ "UpDrain") U := h.2.1.2 ("UpDrain$Water", 29, ⟨"UpDrain$Stream", "<init>", "()V"⟩, "UpDrain") (List.mem_of_getElem? (i := 1) rfl)
theorem nm_2 {D : va_G} {g : Nat → ClassId} {U : State} (h : SC D g U) : va_Nw (.methodLinkNest "UpDrain$Thoughts" 19 ⟨"UpDrain$Stream", "<init>", "()V"⟩ "UpDrain") U := h.2.1.2 ("UpDrain$Thoughts", 19, ⟨"UpDrain$Stream", "<init>", "()V"⟩, "UpDrain") (List.mem_of_getElem? (i := 2) rfl)
theorem nm_3 {D : va_G} {g : Nat → ClassId} {U : State} (h : SC D g U) : va_Nw (.methodLinkNest "UpDrain$Thoughts" 43 ⟨"UpDrain$Filling", "<init>", "()V"⟩ "UpDrain") U := h.2.1.2 ("UpDrain$Thoughts", 43, ⟨"UpDrain$Filling", "<init>", "()V"⟩, "UpDrain") (List.mem_of_getElem? (i := 3) rfl)
theorem nm_4 {D : va_G} {g : Nat → ClassId} {U : State} (h : SC D g U) : va_Nw (.methodLinkNest "UpDrain" 75 ⟨"UpDrain$Filling", "<init>", "()V"⟩ "UpDrain") U := h.2.1.2 ("UpDrain", 75, ⟨"UpDrain$Filling", "<init>", "()V"⟩, "UpDrain") (List.mem_of_getElem? (i := 4) rfl)
theorem nm_5 {D : va_G} {g : Nat → ClassId} {U : State} (h : SC D g U) : va_Nw (.methodLinkNest "UpDrain$Ways" 28 ⟨"UpDrain", "has", "(II)Z"⟩ "UpDrain") U := h.2.1.2 ("UpDrain$Ways", 28, ⟨"UpDrain", "has", "(II)Z"⟩, "UpDrain") (List.mem_of_getElem? (i := 5) rfl)
theorem nm_6 {D : va_G} {g : Nat → ClassId} {U : State} (h : SC D g U) : va_Nw (.methodLinkNest "UpDrain$Water" 45 ⟨"UpDrain", "has", "(II)Z"⟩ "UpDrain") U := h.2.1.2 ("UpDrain$Water", 45, ⟨"UpDrain", "has", "(II)Z"⟩, "UpDrain") (List.mem_of_getElem? (i := 6) rfl)
theorem nm_7 {D : va_G} {g : Nat → ClassId} {U : State} (h : SC D g U) : va_Nw (.methodLinkNest "UpDrain$Town" 78 ⟨"UpDrain", "has", "(II)Z"⟩ "UpDrain") U := h.2.1.2 ("UpDrain$Town", 78, ⟨"UpDrain", "has", "(II)Z"⟩, "UpDrain") (List.mem_of_getElem? (i := 7) rfl)
theorem nm_8 {D : va_G} {g : Nat → ClassId} {U : State} (h : SC D g U) : va_Nw (.methodLinkNest "UpDrain$Thoughts" 83 ⟨"UpDrain", "has", "(II)Z"⟩ "UpDrain") U := h.2.1.2 ("UpDrain$Thoughts", 83, ⟨"UpDrain", "has", "(II)Z"⟩, "UpDrain") (List.mem_of_getElem? (i := 8) rfl)
theorem nm_9 {D : va_G} {g : Nat → ClassId} {U : State} (h : SC D g U) : va_Nw (.methodLinkNest "UpDrain$Lids" 35 ⟨"UpDrain", "has", "(II)Z"⟩ "UpDrain") U := h.2.1.2 ("UpDrain$Lids", 35, ⟨"UpDrain", "has", "(II)Z"⟩, "UpDrain") (List.mem_of_getElem? (i := 9) rfl)
theorem nm_10 {D : va_G} {g : Nat → ClassId} {U : State} (h : SC D g U) : va_Nw (.methodLinkNest "UpDrain$DayWalk" 82 ⟨"UpDrain", "has", "(II)Z"⟩ "UpDrain") U := h.2.1.2 ("UpDrain$DayWalk", 82, ⟨"UpDrain", "has", "(II)Z"⟩, "UpDrain") (List.mem_of_getElem? (i := 10) rfl)
