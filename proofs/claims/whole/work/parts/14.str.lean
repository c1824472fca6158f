/-! a new row of ints that takes the place of another -/
def nw {R : Type} (bd : Nat) (n : Int32) (k : Nat → Option R) : Option R := if n < 0 ∨ bd < n.toNatClampNeg then none else k n.toNatClampNeg
theorem nw_e {R : Type} {bd : Nat} {n : Int32} {k : Nat → Option R} {r : R} (h : nw bd n k = some r) : ¬ n < 0 ∧ n.toNatClampNeg ≤ bd ∧ ∃ L : Nat, n.toNatClampNeg = L ∧ k L = some r := by
  unfold nw at h
  split at h
  · cases h
  · rename_i q
    exact ⟨fun z => q (Or.inl z), by omega, _, rfl, h⟩
def QvA (D : va_G) (N : Nat) (ad : Nat → Nat) (sz : Nat) (Post : (Nat → Nat) → (Nat → va_E) → Prop) : Array Value → State → Outcome → State → Prop := va_Qv (fun (_ : Unit) => True) (fun _ t => ∃ (ad' : Nat → Nat) (C' : Nat → va_E), Inj N ad' ∧ (∀ i : Nat, i < N → Aw N ad sz (ad' i)) ∧ va_P D vwCl (wd N ad' C') t.heap ∧ Post ad' C') (Aw N ad sz)
def QiA (D : va_G) (N : Nat) (ad : Nat → Nat) (sz : Nat) (P : Int32 → Prop) (r : Int32) (Post : (Nat → Nat) → (Nat → va_E) → Prop) : Array Value → State → Outcome → State → Prop := va_Qi (fun r' (_ : Unit) => r' = r ∧ P r') (fun _ t => ∃ (ad' : Nat → Nat) (C' : Nat → va_E), Inj N ad' ∧ (∀ i : Nat, i < N → Aw N ad sz (ad' i)) ∧ va_P D vwCl (wd N ad' C') t.heap ∧ Post ad' C') (Aw N ad sz)
section RWA
variable {p : Program} {l : Launch} {e : Env} {R : Room} {s : State} {m : MethodId} {args : Array Value} {below : List Frame} {meth : Method} {c : Code} {H : Heap} {locs : List Loc} {cells slots : Nat} {Q : State → Prop} {cc : ByteArray} {pc : Nat} {ls : Array Slot} {rest st0 : List Value} {D : va_G} {g : Nat → ClassId} {N : Nat} {ad : Nat → Nat} {C : Nat → va_E} {A : Nat → Prop} {j t : Nat}
theorem r_newfld (hx : p.tables.exec = Jvm.exec) (hb : c.code = cc) {own Cn : String} {T : u_T} {n ci index : Nat} {Ts : List Cond} (hts : ∀ w ∈ Ts, w.before args s = true) (hin : ∀ w ∈ u_ws Cn T n, w ∈ Ts) (ty0 : Nat → FieldType) (hty : ∀ k, k < n → parseFieldDescriptor (T k).2.2.1 = some (ty0 k)) (hnm : ∀ a, a < n → ∀ b, b < n → a ≠ b → (T a).2.1 ≠ (T b).2.1) (hown : s.vm.findClass own = some m.cls) (harr : (Cond.arrayClass .int).before args s = true) (hK : SC D g s) (hI : Inj N ad) (hA : ∀ q, s.heap.size ≤ q → A q) (hAd : ∀ j : Nat, j < N → A (ad j)) (hP : va_P D vwCl (wd N ad C) H) (hS : va_S A s.heap H locs) (hj : j < N) (ht : t < N) (hjt : j ≠ t) {fs : List Value} (hc : C j = .inr (ci, fs)) (hcl : vwCl[ci]? = some (Cn, T, n)) (k : Nat) (hk : k < n) (hlink : (Cond.fieldLink own index (T k).1 (T k).2.1 (T k).2.2.1).before args s = true) (hfin : (T k).2.2.2 = false) (ht0 : ty0 k = .array .int) (hl : k < fs.length)
    {x : Int32} {L : Nat} (hx0 : ¬ x < 0) (hL : x.toNatClampNeg = L) (hLb : L ≤ 100000) (hcells : cells + 1 ≤ R.cells) (hslots : slots + L ≤ R.slots) (d1 : decode cc pc = .ok (.newarray .int, 2)) (d2 : decode cc (pc + 2) = .ok (.putfield index, 3))
    (kk : ∀ (ad1 : Nat → Nat) (C1 : Nat → va_E) (H1 : Heap) (locs1 : List Loc), Inj N ad1 → (∀ j : Nat, j < N → A (ad1 j)) → (∀ i, i ≠ t → ad1 i = ad i) → va_P D vwCl (wd N ad1 C1) H1 → va_S A s.heap H1 locs1 → (∀ i, i ≠ j → i ≠ t → C1 i = C i) → C1 j = .inr (ci, fs.set k (.ref (ad1 t))) → C1 t = aI g L (fun _ => 0) → W p l e R s m args below meth c H1 locs1 (cells + 1) (slots + L) Q (F0 m (pc + 2 + 3) ls rest)) : W p l e R s m args below meth c H locs cells slots Q (F0 m pc ls (.int x :: .ref (ad j) :: rest)) := by
  have hD := hI.Da hAd C
  refine va_newa (atype := .int) (ty := .int) hx hb harr rfl hK.1 hP hD hS hA (a0 := (L, .inl (fun _ => 0))) (fun cA => rfl) hx0 hL (by rw [show componentBytes .int = 4 from rfl]; omega) hcells hslots d1 (fun q cA H1 hK1 hP1 hD1 hS1 => ?_)
  have hcA : cA = g 0 := by
    have h1 := (hK1.2 4 (cA, .int) rfl).2
    have h2 := (hK.1.2 0 (g 0, .int) rfl).2
    exact Option.some.inj (h1.symm.trans h2)
  subst hcA
  rw [wd_push] at hP1 hD1
  have e1 : va_up ad N q j = ad j := va_up_ne _ _ (by omega)
  have e2 : va_up C N (.inl (g 0, L, .inl (fun _ => 0))) j = C j := va_up_ne _ _ (by omega)
  rw [← e1]
  refine va_put (ty := .array .int) (v := .ref q) hx hb hts hin ty0 hty hnm hown ⟨hK.1.1, hK.1.2⟩ hP1 hD1 hS1 j (wd_at (by omega) (e2.trans hc)) hcl k hk hlink (fun _ h => h) hfin (by rw [hty k hk, ht0]) rfl rfl hl d2 (fun H2 locs2 hP2 hD2 hS2 => ?_)
  rw [wd_set (by omega)] at hP2 hD2
  have hq : va_up ad N q N = q := va_up_self ..
  have h2N := wd_get (N := N + 1) (ad := va_up ad N q) (C := va_up (va_up C N (.inl (g 0, L, .inl (fun _ => 0)))) j (.inr (ci, fs.set k (.ref q)))) (j := N) (by omega)
  rw [hq] at h2N
  have hqn : ∀ i, i < N → ad i ≠ q := fun i hi e => by
    have h1 := wd_get (N := N + 1) (ad := va_up ad N q) (C := va_up (va_up C N (.inl (g 0, L, .inl (fun _ => 0)))) j (.inr (ci, fs.set k (.ref q)))) (j := i) (by omega)
    have e3 : va_up ad N q i = ad i := va_up_ne _ _ (by omega)
    rw [e3] at h1
    have := hD2.1 i N _ _ h1 h2N e
    omega
  have hAq : A q := hD2.2 N _ h2N
  have hP4 : va_P D vwCl (wd N (va_up ad t q) (va_up (va_up C j (.inr (ci, fs.set k (.ref q)))) t (aI g L (fun _ => 0)))) H2 := fun k0 q0 h0 => by
    obtain ⟨hk0, rfl⟩ := wd_of h0
    by_cases h : k0 = t
    · subst h
      have h2 := hP2 N _ h2N
      rw [va_up_ne _ _ (show N ≠ j by omega), va_up_self] at h2
      rw [va_up_self, va_up_self]
      exact h2
    · have h2 := hP2 k0 _ (wd_get (by omega))
      rw [va_up_ne ad q (show k0 ≠ N by omega)] at h2
      rw [va_up_ne _ _ h, va_up_ne _ _ h]
      by_cases h3 : k0 = j
      · subst h3
        rw [va_up_self] at h2 ⊢
        exact h2
      · rw [va_up_ne _ _ h3, va_up_ne _ _ (show k0 ≠ N by omega)] at h2
        rw [va_up_ne _ _ h3]
        exact h2
  refine kk (va_up ad t q) _ H2 locs2 (fun a b ha hb2 hab => ?_) (fun i hi => ?_) (fun i hi => va_up_ne _ _ hi) hP4 hS2 (fun i h1 h2 => ?_) ?_ ?_
  · by_cases h1 : a = t <;> by_cases h2 : b = t
    · rw [h1, h2]
    · rw [h1, va_up_self, va_up_ne _ _ h2] at hab
      exact absurd hab.symm (hqn b hb2)
    · rw [h2, va_up_self, va_up_ne _ _ h1] at hab
      exact absurd hab (hqn a ha)
    · rw [va_up_ne _ _ h1, va_up_ne _ _ h2] at hab
      exact hI a b ha hb2 hab
  · by_cases h1 : i = t
    · rw [h1, va_up_self]; exact hAq
    · rw [va_up_ne _ _ h1]; exact hAd i hi
  · rw [va_up_ne _ _ h2, va_up_ne _ _ h1]
  · rw [va_up_ne _ _ hjt, va_up_self, va_up_self]
  · rw [va_up_self]
theorem k_vA {a : Array Value} {mc ms : Nat} {Post : (Nat → Nat) → (Nat → va_E) → Prop} (hr : va_Run p l e R s m args below meth c H locs cells slots mc ms (F0 m pc ls st0) rest (QvA D N ad H.size Post a) (Aw N ad H.size)) (hA : ∀ q, s.heap.size ≤ q → A q) (hAd : ∀ j : Nat, j < N → A (ad j)) (hS : va_S A s.heap H locs)
    (kk : ∀ (ad1 : Nat → Nat) (C1 : Nat → va_E) (H1 : Heap) (locs1 : List Loc), Inj N ad1 → (∀ j : Nat, j < N → A (ad1 j)) → va_P D vwCl (wd N ad1 C1) H1 → va_S A s.heap H1 locs1 → Post ad1 C1 → W p l e R s m args below meth c H1 locs1 (cells + mc) (slots + ms) Q (F0 m (pc + 3) ls rest)) : W p l e R s m args below meth c H locs cells slots Q (F0 m pc ls st0) :=
  va_callv hr hS (fun q _ h => Aw_to hA hAd hS.1 h) (fun q h => Aw_to hA hAd hS.1 h) (fun u t H1 locs1 ht hvm hp hb hz hk hS1 => by
    obtain ⟨ad1, C1, hI1, hA1, hP1, hpo⟩ := hb
    rw [ht] at hP1
    exact kk ad1 C1 H1 locs1 hI1 (fun i hi => Aw_to hA hAd hS.1 (hA1 i hi)) hP1 hS1 hpo)
theorem k_iA {a : Array Value} {mc ms : Nat} {P : Int32 → Prop} {r : Int32} {Post : (Nat → Nat) → (Nat → va_E) → Prop} (hr : va_Run p l e R s m args below meth c H locs cells slots mc ms (F0 m pc ls st0) rest (QiA D N ad H.size P r Post a) (Aw N ad H.size)) (hA : ∀ q, s.heap.size ≤ q → A q) (hAd : ∀ j : Nat, j < N → A (ad j)) (hS : va_S A s.heap H locs)
    (kk : ∀ (ad1 : Nat → Nat) (C1 : Nat → va_E) (H1 : Heap) (locs1 : List Loc), Inj N ad1 → (∀ j : Nat, j < N → A (ad1 j)) → va_P D vwCl (wd N ad1 C1) H1 → va_S A s.heap H1 locs1 → Post ad1 C1 → P r → W p l e R s m args below meth c H1 locs1 (cells + mc) (slots + ms) Q (F0 m (pc + 3) ls (.int r :: rest))) : W p l e R s m args below meth c H locs cells slots Q (F0 m pc ls st0) :=
  va_calli hr hS (fun q _ h => Aw_to hA hAd hS.1 h) (fun q h => Aw_to hA hAd hS.1 h) (fun r' u t H1 locs1 ht hvm hp hb hz hk hS1 => by
    obtain ⟨rfl, hp⟩ := hp
    obtain ⟨ad1, C1, hI1, hA1, hP1, hpo⟩ := hb
    rw [ht] at hP1
    exact kk ad1 C1 H1 locs1 hI1 (fun i hi => Aw_to hA hAd hS.1 (hA1 i hi)) hP1 hS1 hpo hp)
theorem e_vA {mc ms : Nat} {ad1 : Nat → Nat} {Post : (Nat → Nat) → (Nat → va_E) → Prop} (hx : p.tables.exec = Jvm.exec) (hb : c.code = cc) (hr : meth.sig.returnType = none) (hI : Inj N ad1) (hAd : ∀ j : Nat, j < N → Aw N ad s.heap.size (ad1 j)) (hP : va_P D vwCl (wd N ad1 C) H) (hS : va_S (Aw N ad s.heap.size) s.heap H locs) (hpo : Post ad1 C) (hlocks : meth.locks = false) (hdg : decode cc pc = .ok (.return_, 1)) : W p l e R s m args below meth c H locs mc ms (MQ below (QvA D N ad s.heap.size Post) args s mc ms (Aw N ad s.heap.size)) (F0 m pc ls []) :=
  W.vret hx hb hr (fun t ht hW => ⟨⟨(), rfl, trivial, ad1, C, hI, hAd, by rw [ht]; exact hP, hpo⟩, hS.F ht⟩) hS.2.2 hdg hlocks
theorem e_iA {mc ms : Nat} {ad1 : Nat → Nat} {P : Int32 → Prop} {r v : Int32} {Post : (Nat → Nat) → (Nat → va_E) → Prop} (hx : p.tables.exec = Jvm.exec) (hb : c.code = cc) (hr : meth.sig.returnType = some .int) (hv : v = r) (hp : P v) (hI : Inj N ad1) (hAd : ∀ j : Nat, j < N → Aw N ad s.heap.size (ad1 j)) (hP : va_P D vwCl (wd N ad1 C) H) (hS : va_S (Aw N ad s.heap.size) s.heap H locs) (hpo : Post ad1 C) (hlocks : meth.locks = false) (hdg : decode cc pc = .ok (.ireturn, 1)) : W p l e R s m args below meth c H locs mc ms (MQ below (QiA D N ad s.heap.size P r Post) args s mc ms (Aw N ad s.heap.size)) (F0 m pc ls [.int v]) :=
  W.iret hx hb hr (fun t ht hW => ⟨⟨v, (), rfl, ⟨hv, hp⟩, ad1, C, hI, hAd, by rw [ht]; exact hP, hpo⟩, hS.F ht⟩) hS.2.2 hdg hlocks
end RWA
theorem aS_re {g : Nat → ClassId} {ad ad' : Nat → Nat} (had : ∀ i : Nat, i < 78 → ad' i = ad i) : aS g 12 (fun i => if i < 12 then some (ad (24 + 3 * i)) else none) = aS g 12 (fun i => if i < 12 then some (ad' (24 + 3 * i)) else none) := by
  have e : (fun i => if i < 12 then some (ad (24 + 3 * i)) else none) = (fun i => if i < 12 then some (ad' (24 + 3 * i)) else none) := by
    funext i
    by_cases h : i < 12
    · rw [if_pos h, if_pos h, had _ (by omega)]
    · rw [if_neg h, if_neg h]
  rw [e]
theorem aF_re {g : Nat → ClassId} {ad ad' : Nat → Nat} (had : ∀ i : Nat, i < 78 → ad' i = ad i) : aF g 10 (fun i => if i < 10 then some (ad (67 + i)) else none) = aF g 10 (fun i => if i < 10 then some (ad' (67 + i)) else none) := by
  have e : (fun i => if i < 10 then some (ad (67 + i)) else none) = (fun i => if i < 10 then some (ad' (67 + i)) else none) := by
    funext i
    by_cases h : i < 10
    · rw [if_pos h, if_pos h, had _ (by omega)]
    · rw [if_neg h, if_neg h]
  rw [e]
section RW2
variable {p : Program} {l : Launch} {e : Env} {R : Room} {s : State} {m : MethodId} {args : Array Value} {below : List Frame} {meth : Method} {c : Code} {H : Heap} {locs : List Loc} {cells slots : Nat} {Q : State → Prop} {cc : ByteArray} {pc : Nat} {ls : Array Slot} {rest : List Value} {D : va_G} {g : Nat → ClassId} {N : Nat} {ad : Nat → Nat} {C : Nat → va_E} {j : Nat}
theorem r_aldS2 (hx : p.tables.exec = Jvm.exec) (hb : c.code = cc) (hK : SC D g s) (hP : va_P D vwCl (wd N ad C) H) (hj : j < N) {n a : Nat} {f : Nat → Option Nat} (hc : C j = aS g n f) {i : Int32} (hin : vp_in i n) (hdg : decode cc pc = .ok (.aaload, 1)) (hv : f i.toNatClampNeg = some a)
    (kk : W p l e R s m args below meth c H locs cells slots Q (F0 m (pc + 1) ls (.ref a :: rest))) : W p l e R s m args below meth c H locs cells slots Q (F0 m pc ls (.int i :: .ref (ad j) :: rest)) :=
  r_aldS hx hb hK hP hj hc hin hdg (by rw [hv]; exact kk)
theorem r_aldF2 (hx : p.tables.exec = Jvm.exec) (hb : c.code = cc) (hK : SC D g s) (hP : va_P D vwCl (wd N ad C) H) (hj : j < N) {n a : Nat} {f : Nat → Option Nat} (hc : C j = aF g n f) {i : Int32} (hin : vp_in i n) (hdg : decode cc pc = .ok (.aaload, 1)) (hv : f i.toNatClampNeg = some a)
    (kk : W p l e R s m args below meth c H locs cells slots Q (F0 m (pc + 1) ls (.ref a :: rest))) : W p l e R s m args below meth c H locs cells slots Q (F0 m pc ls (.int i :: .ref (ad j) :: rest)) :=
  r_aldF hx hb hK hP hj hc hin hdg (by rw [hv]; exact kk)
end RW2
/-! what is fixed ahead of the run: the words of the lines, the rows of bounds, two statics of the JDK -/
def lenS : List Nat := [4, 4, 6, 4, 4, 3, 4, 4]
def bytS : List (List Int32) := [[112, 105, 112, 101], [102, 108, 111, 119], [115, 111, 117, 114, 99, 101], [103, 117, 108, 112], [114, 97, 105, 110], [99, 117, 112], [108, 105, 102, 116], [110, 111, 110, 101]]
def txS : List String := ["pipe", "flow", "source", "gulp", "rain", "cup", "lift", "none"]
def boundL : List Int32 := [0, 5, 7, 10, 13, 15, 19, 20, 21]
def leastL : List Int32 := [1, 0, 0, 1, 0, 0, 0, 0, 0, 0, 0, 0, 0, 0, 0, 0, 1, 0, 0, 0, 0]
def mostL : List Int32 := [11, 10, 99, 60, 99, 11, 999, 11, 99, 9999, 11, 23, 23, 23, 90, 3, 9999, 9, 9, 60, 99]
def boundF (k : Nat) : Int32 := boundL.getD k 0
def leastF (k : Nat) : Int32 := leastL.getD k 0
def mostF (k : Nat) : Int32 := mostL.getD k 0
def slen (i : Nat) : Int32 := nI (lenS.getD i 0)
def schF (i : Nat) (k : Nat) : Int32 := (bytS.getD i []).getD k 0 &&& 255
theorem lenS_lt : ∀ i, i < 8 → lenS.getD i 0 < 2 ^ 31 := by decide
def SD (adK adV tb : Nat → Nat) (A : Nat → Prop) (U : State) (H : Heap) : Prop :=
  vk_S 8 lenS bytS adK adV A U H ∧ (∀ i : Nat, i < 8 → vk_R "UpDrain$Text" (81 + 2 * i) (txS.getD i "") (adK i) U) ∧ va_Z "java/lang/String" "COMPACT_STRINGS" "Z" (.int 1) A U H ∧ va_Zq "jdk/internal/util/Preconditions" "SIOOBE_FORMATTER" "Ljava/util/function/BiFunction;" A U H ∧
  (va_Z "UpDrain$Text" "BOUND" "[I" (.ref (tb 0)) A U H ∧ va_T .int (tb 0) 9 (fun j => .int (boundF j)) A U H) ∧ (va_Z "UpDrain$Text" "LEAST" "[I" (.ref (tb 1)) A U H ∧ va_T .int (tb 1) 21 (fun j => .int (leastF j)) A U H) ∧ (va_Z "UpDrain$Text" "MOST" "[I" (.ref (tb 2)) A U H ∧ va_T .int (tb 2) 21 (fun j => .int (mostF j)) A U H)
theorem SD.narrow {adK adV tb : Nat → Nat} {A B : Nat → Prop} {U : State} {H : Heap} (h : SD adK adV tb A U H) (hB : ∀ q, B q → A q) : SD adK adV tb B U H := by
  obtain ⟨h1, h2, h3, h4, ⟨h5, h6⟩, ⟨h7, h8⟩, ⟨h9, h10⟩⟩ := h
  exact ⟨h1.narrow hB, h2, h3.narrow hB, h4.narrow hB, ⟨h5.narrow hB, h6.narrow hB⟩, ⟨h7.narrow hB, h8.narrow hB⟩, ⟨h9.narrow hB, h10.narrow hB⟩⟩
theorem SD.kept {adK adV tb : Nat → Nat} {A : Nat → Prop} {U : State} {H H1 : Heap} (h : SD adK adV tb A U H) (hq : ∀ a : Nat, a < H.size → ¬ A a → H1[a]? = H[a]?) : SD adK adV tb A U H1 := by
  obtain ⟨h1, h2, h3, h4, ⟨h5, h6⟩, ⟨h7, h8⟩, ⟨h9, h10⟩⟩ := h
  exact ⟨h1.kept hq, h2, h3.kept hq, h4.kept hq, ⟨h5.kept hq, h6.kept hq⟩, ⟨h7.kept hq, h8.kept hq⟩, ⟨h9.kept hq, h10.kept hq⟩⟩
theorem SD.warm {adK adV tb : Nat → Nat} {A : Nat → Prop} {s U : State} {H : Heap} (hW : s.WarmedH U.vm) (h : SD adK adV tb A s H) : SD adK adV tb A U H := by
  obtain ⟨h1, h2, h3, h4, ⟨h5, h6⟩, ⟨h7, h8⟩, ⟨h9, h10⟩⟩ := h
  have hv := hW.alike
  exact ⟨h1.moved hv, fun i hi => (h2 i hi).warm hW, h3.moved hv, h4.moved hv, ⟨h5.moved hv, h6.moved hv⟩, ⟨h7.moved hv, h8.moved hv⟩, ⟨h9.moved hv, h10.moved hv⟩⟩
theorem SD.call {adK adV tb : Nat → Nat} {A : Nat → Prop} {U : State} {H : Heap} {f : JFrame} {mk : MethodId} {a : Array Value} (h : SD adK adV tb A U H) : SD adK adV tb A (U.calling f mk a) H := by
  obtain ⟨h1, h2, h3, h4, ⟨h5, h6⟩, ⟨h7, h8⟩, ⟨h9, h10⟩⟩ := h
  have hv : U.vm.Alike (U.calling f mk a).vm := Vm.Alike.refl U.vm
  exact ⟨h1.moved hv, fun i hi => (h2 i hi).same rfl, h3.moved hv, h4.moved hv, ⟨h5.moved hv, h6.moved hv⟩, ⟨h7.moved hv, h8.moved hv⟩, ⟨h9.moved hv, h10.moved hv⟩⟩
theorem SD.to {adK adV tb : Nat → Nat} {A B : Nat → Prop} {s U : State} {H : Heap} {locs : List Loc} (h : SD adK adV tb A s s.heap) (hS : va_S A s.heap H locs) (hW : s.WarmedH U.vm) (hB : ∀ q, B q → A q) : SD adK adV tb B U H := ((h.kept hS.2.1).warm hW).narrow hB
/-- a start with what is fixed ahead, and no world -/
def PcJ (adK adV tb : Nat → Nat) (sz : Nat) (av : List Value) : Array Value → State → Prop := va_Pc av (fun U => U.heap.size = sz ∧ SD adK adV tb (An sz) U U.heap)
theorem PcJ_bl (adK adV tb : Nat → Nat) (sz : Nat) (av : List Value) : FrameBlind (PcJ adK adV tb sz av) := fun a U f mk q => by
  obtain ⟨q0, q1, q2⟩ := q
  exact ⟨q0, q1, q2.call⟩
/-- a start with the world and what is fixed ahead -/
def PcT (D : va_G) (g : Nat → ClassId) (N : Nat) (ad : Nat → Nat) (C : Nat → va_E) (adK adV tb : Nat → Nat) (sz : Nat) (av : List Value) : Array Value → State → Prop := va_Pc av (fun U => U.heap.size = sz ∧ SC D g U ∧ va_P D vwCl (wd N ad C) U.heap ∧ SD adK adV tb (Aw N ad sz) U U.heap)
theorem PcT_bl (D : va_G) (g : Nat → ClassId) (N : Nat) (ad : Nat → Nat) (C : Nat → va_E) (adK adV tb : Nat → Nat) (sz : Nat) (av : List Value) : FrameBlind (PcT D g N ad C adK adV tb sz av) := fun a U f mk q => by
  obtain ⟨q0, q1, q2, q3, q4⟩ := q
  exact ⟨q0, q1, q2.call, q3, q4.call⟩
theorem preT_of {s : State} {H : Heap} {locs : List Loc} {D : va_G} {g : Nat → ClassId} {N : Nat} {ad adK adV tb : Nat → Nat} {C : Nat → va_E} {A : Nat → Prop} {As : List Value} {j ci : Nat} {fs : List Value} {q : vw_C} (hK : SC D g s) (hSD : SD adK adV tb (Aw N ad s.heap.size) s s.heap) (hS : va_S A s.heap H locs) (hAB : ∀ q, A q → Aw N ad s.heap.size q) (hP : va_P D vwCl (wd N ad C) H) (hj : j < N) (hc : C j = .inr (ci, fs)) (hcl : vwCl[ci]? = some q) : PreV s H q.1 (ad j) (PcT D g N ad C adK adV tb H.size (.ref (ad j) :: As)) As :=
  ⟨PcT_bl _ _ _ _ _ _ _ _ _ _, va_recv hK.1 hP hcl (wd_at hj hc), fun U hU hW => ⟨rfl, by rw [hU], hK.warm hW, by rw [hU]; exact hP, by rw [hU]; exact ((hSD.kept (fun a h1 h2 => hS.2.1 a h1 (fun q => h2 (hAB a q)))).warm hW).narrow (fun q h => Aw_le hS.1 h)⟩⟩
theorem preJV {s : State} {H : Heap} {locs : List Loc} {adK adV tb : Nat → Nat} {A : Nat → Prop} {As : List Value} {i : Nat} (hSD : SD adK adV tb A s s.heap) (hS : va_S A s.heap H locs) (hB : ∀ q, An H.size q → A q) (hi : i < 8) : PreV s H "java/lang/String" (adK i) (PcJ adK adV tb H.size (.ref (adK i) :: As)) As :=
  ⟨PcJ_bl _ _ _ _ _, vk_recv hSD.1 hi hS, fun U hU hW => ⟨rfl, by rw [hU], by rw [hU]; exact hSD.to hS hW hB⟩⟩
theorem preJS {s : State} {H : Heap} {locs : List Loc} {adK adV tb : Nat → Nat} {A : Nat → Prop} {As : List Value} (hSD : SD adK adV tb A s s.heap) (hS : va_S A s.heap H locs) (hB : ∀ q, An H.size q → A q) : PreS s H (PcJ adK adV tb H.size As) As :=
  ⟨PcJ_bl _ _ _ _ _, fun U hU hW => ⟨rfl, by rw [hU], by rw [hU]; exact hSD.to hS hW hB⟩⟩
def QvR (sz : Nat) : Array Value → State → Outcome → State → Prop := va_Qv (fun (_ : Unit) => True) (fun _ _ => True) (An sz)
def QrR (sz a : Nat) : Array Value → State → Outcome → State → Prop := va_Qr (fun (_ : Unit) => True) (fun _ a' _ => a' = a) (An sz)
section RJ
variable {p : Program} {l : Launch} {e : Env} {R : Room} {s : State} {m : MethodId} {args : Array Value} {below : List Frame} {meth : Method} {c : Code} {H : Heap} {locs : List Loc} {cells slots : Nat} {Q : State → Prop} {cc : ByteArray} {pc : Nat} {ls : Array Slot} {rest st0 : List Value} {D : va_G} {N : Nat} {ad : Nat → Nat} {C : Nat → va_E} {A : Nat → Prop}
theorem e_gR {ty : FieldType} {P : Int32 → Prop} {r v : Int32} (hx : p.tables.exec = Jvm.exec) (hb : c.code = cc) (hr : meth.sig.returnType = some ty) (hn : narrow ty (.int v) = .int v) (hv : v = r) (hp : P v) (hS : va_S (An s.heap.size) s.heap H locs) (hlocks : meth.locks = false) (hdg : decode cc pc = .ok (.ireturn, 1)) : W p l e R s m args below meth c H locs 0 0 (MQ below (QiR s.heap.size P r) args s 0 0 (An s.heap.size)) (F0 m pc ls [.int v]) :=
  W.zret hx hb hr hn (fun t ht hW => ⟨⟨v, (), rfl, ⟨hv, hp⟩, trivial⟩, hS.F ht⟩) hS.2.2 hdg hlocks
theorem e_vR (hx : p.tables.exec = Jvm.exec) (hb : c.code = cc) (hr : meth.sig.returnType = none) (hS : va_S (An s.heap.size) s.heap H locs) (hlocks : meth.locks = false) (hdg : decode cc pc = .ok (.return_, 1)) : W p l e R s m args below meth c H locs 0 0 (MQ below (QvR s.heap.size) args s 0 0 (An s.heap.size)) (F0 m pc ls []) :=
  W.vret hx hb hr (fun t ht hW => ⟨⟨(), rfl, trivial, trivial⟩, hS.F ht⟩) hS.2.2 hdg hlocks
theorem k_v0 {a : Array Value} (hr : va_Run p l e R s m args below meth c H locs cells slots 0 0 (F0 m pc ls st0) rest (QvR H.size a) (An H.size)) (hA : ∀ q, s.heap.size ≤ q → A q) (hS : va_S A s.heap H locs)
    (kk : ∀ (H1 : Heap) (locs1 : List Loc), va_S A s.heap H1 locs1 → W p l e R s m args below meth c H1 locs1 cells slots Q (F0 m (pc + 3) ls rest)) : W p l e R s m args below meth c H locs cells slots Q (F0 m pc ls st0) :=
  va_callv hr hS (fun q _ h => hA q (Nat.le_trans hS.1 h)) (fun q h => hA q (Nat.le_trans hS.1 h)) (fun u t H1 locs1 ht hvm hp hb hz hk hS1 => kk H1 locs1 hS1)
theorem k_rR {a : Array Value} {ra : Nat} (hr : va_Run p l e R s m args below meth c H locs cells slots 0 0 (F0 m pc ls st0) rest (QrR H.size ra a) (An H.size)) (hA : ∀ q, s.heap.size ≤ q → A q) (hP : va_P D vwCl (wd N ad C) H) (hS : va_S A s.heap H locs)
    (kk : ∀ (H1 : Heap) (locs1 : List Loc), va_P D vwCl (wd N ad C) H1 → va_S A s.heap H1 locs1 → W p l e R s m args below meth c H1 locs1 cells slots Q (F0 m (pc + 3) ls (.ref ra :: rest))) : W p l e R s m args below meth c H locs cells slots Q (F0 m pc ls st0) :=
  va_callr hr hS (fun q _ h => hA q (Nat.le_trans hS.1 h)) (fun q h => hA q (Nat.le_trans hS.1 h)) (fun u r' t H1 locs1 ht hvm hp hb hz hk hS1 => by
    subst hb
    exact kk H1 locs1 (k_keep hP hk) hS1)
end RJ
def widx (k : Int32) : Nat := if k = 0 then 0 else if k = 1 then 1 else if k = 2 then 2 else if k = 3 then 3 else if k = 4 then 4 else if k = 5 then 5 else if k = 6 then 6 else 7
theorem widx_lt (k : Int32) : widx k < 8 := by unfold widx; repeat (first | omega | split)
abbrev rmJ0_coder_7d493 : Room := { frames := 0, cells := 0, slots := 0, locals := 0 }
set_option maxHeartbeats 4000000 in
set_option maxRecDepth 100000 in
theorem c_J0_coder_7d493 {l : Launch} {adK adV tb : Nat → Nat} {sz : Nat} {i : Nat} (hi : i < 8) : Met l yJ0_coder_7d493 wsJ0_coder_7d493 rmJ0_coder_7d493 (PcJ adK adV tb sz [.ref (adK i)]) (QiR sz tP 0) 0 0 (An sz) := by
  refine Met.ofW (cc := cJ0_coder_7d493) (maxL := 1) (ret := some .byte) (by decide) rfl ?_
  intro p e s m args below meth c s₁ B hml hv
  obtain ⟨hav, hsz, hSD⟩ := hv
  subst hsz
  have hx := B.exec
  have hb := B.bytes
  have hr := B.returns
  have hts := atoms_spec (ws := wsJ0_coder_7d493) B.pre
  have hown : s.vm.findClass RJ0 = some m.cls := findClass_of_methodNamed B.named
  have hlocks := B.notSynchronized
  have hS : va_S (An s.heap.size) s.heap s.heap [] := va_S.rf
  have hA : ∀ q, s.heap.size ≤ q → (An s.heap.size) q := fun q h => h
  have hE := lg_entry_eq m [.ref (adK i)] 1
  rw [← hav] at hE
  rw [hE]
  have hl := lv_entry [.ref (adK i)] (n := 1) (Nat.le_of_ble_eq_true rfl)
  generalize (lg_sl [.ref (adK i)] ++ List.replicate (1 - (lg_sl [.ref (adK i)]).length) Slot.unset).toArray = ls at hl ⊢
  have hl : lv_has ls 1 [(0, .ref (adK i))] := hl
  refine va_gets (own := RJ0) hx hb hSD.2.2.1 hS hown (hts (.fieldLink RJ0 38 "java/lang/String" "COMPACT_STRINGS" "Z") (List.mem_of_getElem? (i := 1) rfl)) (fun _ h => h) dJ0_coder_7d493_0 ?_
  refine lv_if_eq (tgt := 13) hx hb dJ0_coder_7d493_3 (by decide) (fun q => absurd q (by decide)) (fun _ => ?_)
  refine lv_aload_n hx hb dJ0_coder_7d493_6 rfl (lv_at hl 0 rfl) ?_
  refine vk_getf (own := RJ0) hx hb (hSD.1.1 i hi).2.1 hS hown (hts (.fieldLink RJ0 15 "java/lang/String" "coder" "B") (List.mem_of_getElem? (i := 2) rfl)) (fun _ h => h) dJ0_coder_7d493_7 ?_
  refine lv_goto (tgt := 14) hx hb dJ0_coder_7d493_10 (by decide) ?_
  exact e_gR hx hb hr rfl rfl (tP_i _) hS hlocks dJ0_coder_7d493_14
abbrev rmJ0_isLatin1_aae02 : Room := { frames := 0, cells := 0, slots := 0, locals := 0 }
set_option maxHeartbeats 4000000 in
set_option maxRecDepth 100000 in
theorem c_J0_isLatin1_aae02 {l : Launch} {adK adV tb : Nat → Nat} {sz : Nat} {i : Nat} (hi : i < 8) : Met l yJ0_isLatin1_aae02 wsJ0_isLatin1_aae02 rmJ0_isLatin1_aae02 (PcJ adK adV tb sz [.ref (adK i)]) (QiR sz tP 1) 0 0 (An sz) := by
  refine Met.ofW (cc := cJ0_isLatin1_aae02) (maxL := 1) (ret := some .boolean) (by decide) rfl ?_
  intro p e s m args below meth c s₁ B hml hv
  obtain ⟨hav, hsz, hSD⟩ := hv
  subst hsz
  have hx := B.exec
  have hb := B.bytes
  have hr := B.returns
  have hts := atoms_spec (ws := wsJ0_isLatin1_aae02) B.pre
  have hown : s.vm.findClass RJ0 = some m.cls := findClass_of_methodNamed B.named
  have hlocks := B.notSynchronized
  have hS : va_S (An s.heap.size) s.heap s.heap [] := va_S.rf
  have hA : ∀ q, s.heap.size ≤ q → (An s.heap.size) q := fun q h => h
  have hE := lg_entry_eq m [.ref (adK i)] 1
  rw [← hav] at hE
  rw [hE]
  have hl := lv_entry [.ref (adK i)] (n := 1) (Nat.le_of_ble_eq_true rfl)
  generalize (lg_sl [.ref (adK i)] ++ List.replicate (1 - (lg_sl [.ref (adK i)]).length) Slot.unset).toArray = ls at hl ⊢
  have hl : lv_has ls 1 [(0, .ref (adK i))] := hl
  refine va_gets (own := RJ0) hx hb hSD.2.2.1 hS hown (hts (.fieldLink RJ0 38 "java/lang/String" "COMPACT_STRINGS" "Z") (List.mem_of_getElem? (i := 1) rfl)) (fun _ h => h) dJ0_isLatin1_aae02_0 ?_
  refine lv_if_eq (tgt := 17) hx hb dJ0_isLatin1_aae02_3 (by decide) (fun q => absurd q (by decide)) (fun _ => ?_)
  refine lv_aload_n hx hb dJ0_isLatin1_aae02_6 rfl (lv_at hl 0 rfl) ?_
  refine vk_getf (own := RJ0) hx hb (hSD.1.1 i hi).2.1 hS hown (hts (.fieldLink RJ0 15 "java/lang/String" "coder" "B") (List.mem_of_getElem? (i := 2) rfl)) (fun _ h => h) dJ0_isLatin1_aae02_7 ?_
  refine lv_if_ne (tgt := 17) hx hb dJ0_isLatin1_aae02_10 (by decide) (fun q => absurd rfl q) (fun _ => ?_)
  refine lv_iconst (v := 1) hx hb dJ0_isLatin1_aae02_13 (by decide) ?_
  refine lv_goto (tgt := 18) hx hb dJ0_isLatin1_aae02_14 (by decide) ?_
  exact e_gR hx hb hr rfl rfl (tP_i _) hS hlocks dJ0_isLatin1_aae02_18
abbrev rmJ0_length_8abf5 : Room := { frames := 1, cells := 0, slots := 0, locals := 20 }
set_option maxHeartbeats 4000000 in
set_option maxRecDepth 100000 in
theorem c_J0_length_8abf5 {l : Launch} {adK adV tb : Nat → Nat} {sz : Nat} {i : Nat} (hi : i < 8) : Met l yJ0_length_8abf5 wsJ0_length_8abf5 rmJ0_length_8abf5 (PcJ adK adV tb sz [.ref (adK i)]) (QiR sz tP (slen i)) 0 0 (An sz) := by
  refine Met.ofW (cc := cJ0_length_8abf5) (maxL := 1) (ret := some .int) (by decide) rfl ?_
  intro p e s m args below meth c s₁ B hml hv
  obtain ⟨hav, hsz, hSD⟩ := hv
  subst hsz
  have hx := B.exec
  have hb := B.bytes
  have hr := B.returns
  have hts := atoms_spec (ws := wsJ0_length_8abf5) B.pre
  have hown : s.vm.findClass RJ0 = some m.cls := findClass_of_methodNamed B.named
  have hlocks := B.notSynchronized
  have hS : va_S (An s.heap.size) s.heap s.heap [] := va_S.rf
  have hA : ∀ q, s.heap.size ≤ q → (An s.heap.size) q := fun q h => h
  have hE := lg_entry_eq m [.ref (adK i)] 1
  rw [← hav] at hE
  rw [hE]
  have hl := lv_entry [.ref (adK i)] (n := 1) (Nat.le_of_ble_eq_true rfl)
  generalize (lg_sl [.ref (adK i)] ++ List.replicate (1 - (lg_sl [.ref (adK i)]).length) Slot.unset).toArray = ls at hl ⊢
  have hl : lv_has ls 1 [(0, .ref (adK i))] := hl
  refine lv_aload_n hx hb dJ0_length_8abf5_0 rfl (lv_at hl 0 rfl) ?_
  refine vk_getf (own := RJ0) hx hb (hSD.1.1 i hi).2.2.1 hS hown (hts (.fieldLink RJ0 9 "java/lang/String" "value" "[B") (List.mem_of_getElem? (i := 1) rfl)) (fun _ h => h) dJ0_length_8abf5_1 ?_
  refine va_tlen hx hb (hSD.1.1 i hi).2.2.2 hS (v := slen i) rfl dJ0_length_8abf5_4 ?_
  refine lv_aload_n hx hb dJ0_length_8abf5_5 rfl (lv_at hl 0 rfl) ?_
  refine k_i0 (va_runV (C := RJ0) (As := []) (rest := [.int (slen i)]) ⟨hx, hb, hml, hown, hts⟩ (c_J0_coder_7d493 (l := l) (sz := s.heap.size) hi) (cwV 0 hts gJ0_length_8abf5_J0_coder_7d493 rfl rfl rfl (by decide +kernel) ⟨Nat.le_of_ble_eq_true rfl, Nat.le_of_ble_eq_true rfl⟩) (preJV hSD hS (fun _ h => h) hi) rfl rfl hl.1 rfl (lv_room (Nat.le_of_ble_eq_true rfl)) dJ0_length_8abf5_6 ⟨Nat.le_refl _, Nat.le_refl _⟩) hA hS (fun H locs hS _ => ?_)
  refine lv_ishr hx hb dJ0_length_8abf5_9 ?_
  refine tp_i (y := slen i) (by rw [sb_shr0]) ?_
  exact e_iR hx hb hr rfl (tP_i _) hS hlocks dJ0_length_8abf5_10
abbrev rmJ3_checkIndex_8e157 : Room := { frames := 0, cells := 0, slots := 0, locals := 0 }
set_option maxHeartbeats 4000000 in
set_option maxRecDepth 100000 in
theorem c_J3_checkIndex_8e157 {l : Launch} {sz : Nat} {k n : Int32} {f : Option Nat} (h1 : ¬ k < 0) (h2 : k < n) : Met l yJ3_checkIndex_8e157 wsJ3_checkIndex_8e157 rmJ3_checkIndex_8e157 (PcS sz [.int k, .int n, va_rf f]) (QiR sz tP k) 0 0 (An sz) := by
  refine Met.ofW (cc := cJ3_checkIndex_8e157) (maxL := 3) (ret := some .int) (by decide) rfl ?_
  intro p e s m args below meth c s₁ B hml hv
  obtain ⟨hav, hsz⟩ := hv
  subst hsz
  have hx := B.exec
  have hb := B.bytes
  have hr := B.returns
  have hts := atoms_spec (ws := wsJ3_checkIndex_8e157) B.pre
  have hown : s.vm.findClass RJ3 = some m.cls := findClass_of_methodNamed B.named
  have hlocks := B.notSynchronized
  have hS : va_S (An s.heap.size) s.heap s.heap [] := va_S.rf
  have hA : ∀ q, s.heap.size ≤ q → (An s.heap.size) q := fun q h => h
  have hE := lg_entry_eq m [.int k, .int n, va_rf f] 3
  rw [← hav] at hE
  rw [hE]
  have hl : lv_has (lg_sl [.int k, .int n, va_rf f] ++ List.replicate (3 - (lg_sl [.int k, .int n, va_rf f]).length) Slot.unset).toArray 3 [(0, .int k), (1, .int n), (2, va_rf f)] := by cases f <;> exact lv_entry _ (n := 3) (Nat.le_of_ble_eq_true rfl)
  generalize (lg_sl [.int k, .int n, va_rf f] ++ List.replicate (3 - (lg_sl [.int k, .int n, va_rf f]).length) Slot.unset).toArray = ls at hl ⊢
  refine lv_iload_n hx hb dJ3_checkIndex_8e157_0 rfl (lv_at hl 0 rfl) ?_
  refine lv_if_lt (tgt := 9) hx hb dJ3_checkIndex_8e157_1 (by decide) (fun q => absurd q h1) (fun _ => ?_)
  refine lv_iload_n hx hb dJ3_checkIndex_8e157_4 rfl (lv_at hl 0 rfl) ?_
  refine lv_iload_n hx hb dJ3_checkIndex_8e157_5 rfl (lv_at hl 1 rfl) ?_
  refine lv_icmp_lt (tgt := 16) hx hb dJ3_checkIndex_8e157_6 (by decide) (fun _ => ?_) (fun q => absurd h2 q)
  refine lv_iload_n hx hb dJ3_checkIndex_8e157_16 rfl (lv_at hl 0 rfl) ?_
  exact e_iR hx hb hr rfl (tP_i _) hS hlocks dJ3_checkIndex_8e157_17
abbrev rmJ0_checkIndex_df160 : Room := { frames := 1, cells := 0, slots := 0, locals := 22 }
set_option maxHeartbeats 4000000 in
set_option maxRecDepth 100000 in
theorem c_J0_checkIndex_df160 {l : Launch} {adK adV tb : Nat → Nat} {sz : Nat} {k n : Int32} (h1 : ¬ k < 0) (h2 : k < n) : Met l yJ0_checkIndex_df160 wsJ0_checkIndex_df160 rmJ0_checkIndex_df160 (PcJ adK adV tb sz [.int k, .int n]) (QvR sz) 0 0 (An sz) := by
  refine Met.ofW (cc := cJ0_checkIndex_df160) (maxL := 2) (ret := none) (by decide) rfl ?_
  intro p e s m args below meth c s₁ B hml hv
  obtain ⟨hav, hsz, hSD⟩ := hv
  subst hsz
  have hx := B.exec
  have hb := B.bytes
  have hr := B.returns
  have hts := atoms_spec (ws := wsJ0_checkIndex_df160) B.pre
  have hown : s.vm.findClass RJ0 = some m.cls := findClass_of_methodNamed B.named
  have hlocks := B.notSynchronized
  have hS : va_S (An s.heap.size) s.heap s.heap [] := va_S.rf
  have hA : ∀ q, s.heap.size ≤ q → (An s.heap.size) q := fun q h => h
  have hE := lg_entry_eq m [.int k, .int n] 2
  rw [← hav] at hE
  rw [hE]
  have hl := lv_entry [.int k, .int n] (n := 2) (Nat.le_of_ble_eq_true rfl)
  generalize (lg_sl [.int k, .int n] ++ List.replicate (2 - (lg_sl [.int k, .int n]).length) Slot.unset).toArray = ls at hl ⊢
  have hl : lv_has ls 2 [(0, .int k), (1, .int n)] := hl
  refine lv_iload_n hx hb dJ0_checkIndex_df160_0 rfl (lv_at hl 0 rfl) ?_
  refine lv_iload_n hx hb dJ0_checkIndex_df160_1 rfl (lv_at hl 1 rfl) ?_
  obtain ⟨f, hZ⟩ : ∃ f : Option Nat, va_Z "jdk/internal/util/Preconditions" "SIOOBE_FORMATTER" "Ljava/util/function/BiFunction;" (va_rf f) (An s.heap.size) s s.heap := by
    rcases hSD.2.2.2.1 with h | ⟨t, h⟩
    · exact ⟨none, h⟩
    · exact ⟨some t, h⟩
  refine va_gets (own := RJ0) hx hb hZ hS hown (hts (.fieldLink RJ0 1053 "jdk/internal/util/Preconditions" "SIOOBE_FORMATTER" "Ljava/util/function/BiFunction;") (List.mem_of_getElem? (i := 1) rfl)) (fun _ h => h) dJ0_checkIndex_df160_2 ?_
  refine k_i0 (va_runS (As := [.int k, .int n, va_rf f]) (rest := []) ⟨hx, hb, hml, hown, hts⟩ (c_J3_checkIndex_8e157 (l := l) (sz := s.heap.size) (f := f) h1 h2) (va_cwS 3 hts gJ0_checkIndex_df160_J3_checkIndex_8e157 rfl rfl rfl (by decide +kernel) ⟨Nat.le_of_ble_eq_true rfl, Nat.le_of_ble_eq_true rfl⟩) preS0 rfl rfl hl.1 rfl (lv_room (Nat.le_of_ble_eq_true rfl)) dJ0_checkIndex_df160_5 ⟨Nat.le_refl _, Nat.le_refl _⟩) hA hS (fun H locs hS _ => ?_)
  refine lv_pop hx hb dJ0_checkIndex_df160_8 rfl ?_
  exact e_vR hx hb hr hS hlocks dJ0_checkIndex_df160_9
abbrev rmJ1_charAt_3b067 : Room := { frames := 2, cells := 0, slots := 0, locals := 43 }
set_option maxHeartbeats 4000000 in
set_option maxRecDepth 100000 in
theorem c_J1_charAt_3b067 {l : Launch} {adK adV tb : Nat → Nat} {sz : Nat} {i : Nat} {k : Int32} (hi : i < 8) (hk : vp_in k (lenS.getD i 0)) : Met l yJ1_charAt_3b067 wsJ1_charAt_3b067 rmJ1_charAt_3b067 (PcJ adK adV tb sz [.ref (adV i), .int k]) (QiR sz tP (schF i k.toNatClampNeg)) 0 0 (An sz) := by
  refine Met.ofW (cc := cJ1_charAt_3b067) (maxL := 2) (ret := some .char) (by decide) rfl ?_
  intro p e s m args below meth c s₁ B hml hv
  obtain ⟨hav, hsz, hSD⟩ := hv
  subst hsz
  have hx := B.exec
  have hb := B.bytes
  have hr := B.returns
  have hts := atoms_spec (ws := wsJ1_charAt_3b067) B.pre
  have hown : s.vm.findClass RJ1 = some m.cls := findClass_of_methodNamed B.named
  have hlocks := B.notSynchronized
  have hS : va_S (An s.heap.size) s.heap s.heap [] := va_S.rf
  have hA : ∀ q, s.heap.size ≤ q → (An s.heap.size) q := fun q h => h
  have hE := lg_entry_eq m [.ref (adV i), .int k] 2
  rw [← hav] at hE
  rw [hE]
  have hl := lv_entry [.ref (adV i), .int k] (n := 2) (Nat.le_of_ble_eq_true rfl)
  generalize (lg_sl [.ref (adV i), .int k] ++ List.replicate (2 - (lg_sl [.ref (adV i), .int k]).length) Slot.unset).toArray = ls at hl ⊢
  have hl : lv_has ls 2 [(0, .ref (adV i)), (1, .int k)] := hl
  have h1 : ¬ k < 0 := fun q => hk (Or.inl q)
  have h2 : k < slen i := by
    obtain ⟨j, hj, rfl⟩ := vp_in_of hk (lenS_lt i hi)
    exact nI_lt hj (lenS_lt i hi)
  refine lv_iload_n hx hb dJ1_charAt_3b067_0 rfl (lv_at hl 1 rfl) ?_
  refine lv_aload_n hx hb dJ1_charAt_3b067_1 rfl (lv_at hl 0 rfl) ?_
  refine va_tlen hx hb (hSD.1.1 i hi).2.2.2 hS (v := slen i) rfl dJ1_charAt_3b067_2 ?_
  refine k_v0 (va_runS (As := [.int k, .int (slen i)]) (rest := []) ⟨hx, hb, hml, hown, hts⟩ (c_J0_checkIndex_df160 (l := l) (adK := adK) (adV := adV) (tb := tb) (sz := s.heap.size) h1 h2) (va_cwS 2 hts gJ1_charAt_3b067_J0_checkIndex_df160 rfl rfl rfl (by decide +kernel) ⟨Nat.le_of_ble_eq_true rfl, Nat.le_of_ble_eq_true rfl⟩) (preJS hSD hS (fun _ h => h)) rfl rfl hl.1 rfl (lv_room (Nat.le_of_ble_eq_true rfl)) dJ1_charAt_3b067_3 ⟨Nat.le_refl _, Nat.le_refl _⟩) hA hS (fun H locs hS => ?_)
  refine lv_aload_n hx hb dJ1_charAt_3b067_6 rfl (lv_at hl 0 rfl) ?_
  refine lv_iload_n hx hb dJ1_charAt_3b067_7 rfl (lv_at hl 1 rfl) ?_
  refine va_tb hx hb (hSD.1.1 i hi).2.2.2 hS hk rfl dJ1_charAt_3b067_8 ?_
  refine lv_sipush (v := 255) hx hb dJ1_charAt_3b067_9 (by decide) ?_
  refine lv_iand hx hb dJ1_charAt_3b067_12 ?_
  refine lv_i2c (v := schF i k.toNatClampNeg) hx hb dJ1_charAt_3b067_13 (sc_c2 _) ?_
  exact e_gR hx hb hr (sc_nar _) rfl (tP_i _) hS hlocks dJ1_charAt_3b067_14
abbrev rmJ0_charAt_5068e : Room := { frames := 3, cells := 0, slots := 0, locals := 64 }
set_option maxHeartbeats 4000000 in
set_option maxRecDepth 100000 in
theorem c_J0_charAt_5068e {l : Launch} {adK adV tb : Nat → Nat} {sz : Nat} {i : Nat} {k : Int32} (hi : i < 8) (hk : vp_in k (lenS.getD i 0)) : Met l yJ0_charAt_5068e wsJ0_charAt_5068e rmJ0_charAt_5068e (PcJ adK adV tb sz [.ref (adK i), .int k]) (QiR sz tP (schF i k.toNatClampNeg)) 0 0 (An sz) := by
  refine Met.ofW (cc := cJ0_charAt_5068e) (maxL := 2) (ret := some .char) (by decide) rfl ?_
  intro p e s m args below meth c s₁ B hml hv
  obtain ⟨hav, hsz, hSD⟩ := hv
  subst hsz
  have hx := B.exec
  have hb := B.bytes
  have hr := B.returns
  have hts := atoms_spec (ws := wsJ0_charAt_5068e) B.pre
  have hown : s.vm.findClass RJ0 = some m.cls := findClass_of_methodNamed B.named
  have hlocks := B.notSynchronized
  have hS : va_S (An s.heap.size) s.heap s.heap [] := va_S.rf
  have hA : ∀ q, s.heap.size ≤ q → (An s.heap.size) q := fun q h => h
  have hE := lg_entry_eq m [.ref (adK i), .int k] 2
  rw [← hav] at hE
  rw [hE]
  have hl := lv_entry [.ref (adK i), .int k] (n := 2) (Nat.le_of_ble_eq_true rfl)
  generalize (lg_sl [.ref (adK i), .int k] ++ List.replicate (2 - (lg_sl [.ref (adK i), .int k]).length) Slot.unset).toArray = ls at hl ⊢
  have hl : lv_has ls 2 [(0, .ref (adK i)), (1, .int k)] := hl
  refine lv_aload_n hx hb dJ0_charAt_5068e_0 rfl (lv_at hl 0 rfl) ?_
  refine k_i0 (va_runV (C := RJ0) (As := []) (rest := []) ⟨hx, hb, hml, hown, hts⟩ (c_J0_isLatin1_aae02 (l := l) (sz := s.heap.size) hi) (cwV 0 hts gJ0_charAt_5068e_J0_isLatin1_aae02 rfl rfl rfl (by decide +kernel) ⟨Nat.le_of_ble_eq_true rfl, Nat.le_of_ble_eq_true rfl⟩) (preJV hSD hS (fun _ h => h) hi) rfl rfl hl.1 rfl (lv_room (Nat.le_of_ble_eq_true rfl)) dJ0_charAt_5068e_1 ⟨Nat.le_refl _, Nat.le_refl _⟩) hA hS (fun H locs hS _ => ?_)
  refine lv_if_eq (tgt := 16) hx hb dJ0_charAt_5068e_4 (by decide) (fun q => absurd q (by decide)) (fun _ => ?_)
  refine lv_aload_n hx hb dJ0_charAt_5068e_7 rfl (lv_at hl 0 rfl) ?_
  refine vk_getf (own := RJ0) hx hb (hSD.1.1 i hi).2.2.1 hS hown (hts (.fieldLink RJ0 9 "java/lang/String" "value" "[B") (List.mem_of_getElem? (i := 1) rfl)) (fun _ h => h) dJ0_charAt_5068e_8 ?_
  refine lv_iload_n hx hb dJ0_charAt_5068e_11 rfl (lv_at hl 1 rfl) ?_
  refine k_i0 (va_runS (As := [.ref (adV i), .int k]) (rest := []) ⟨hx, hb, hml, hown, hts⟩ (c_J1_charAt_3b067 (l := l) (adK := adK) (tb := tb) (sz := H.size) hi hk) (va_cwS 2 hts gJ0_charAt_5068e_J1_charAt_3b067 rfl rfl rfl (by decide +kernel) ⟨Nat.le_of_ble_eq_true rfl, Nat.le_of_ble_eq_true rfl⟩) (preJS hSD hS (fun _ h => Nat.le_trans hS.1 h)) rfl rfl hl.1 rfl (lv_room (Nat.le_of_ble_eq_true rfl)) dJ0_charAt_5068e_12 ⟨Nat.le_refl _, Nat.le_refl _⟩) hA hS (fun H locs hS _ => ?_)
  exact e_gR hx hb hr (sc_nar _) rfl (tP_i _) hS hlocks dJ0_charAt_5068e_15
abbrev rmX5_wordOf : Room := { frames := 0, cells := 0, slots := 0, locals := 0 }
set_option maxHeartbeats 4000000 in
set_option maxRecDepth 100000 in
theorem c_X5_wordOf {l : Launch} {adK adV tb : Nat → Nat} {sz : Nat} {p0 : Int32} : Met l yX5_wordOf wsX5_wordOf rmX5_wordOf (PcJ adK adV tb sz [.int p0]) (QrR sz (adK (widx p0))) 0 0 (An sz) := by
  refine Met.ofW (cc := cX5_wordOf) (maxL := 1) (ret := (some (.object "java/lang/String"))) (by decide) rfl ?_
  intro p e s m args below meth c s₁ B hml hv
  obtain ⟨hav, hsz, hSD⟩ := hv
  subst hsz
  have hx := B.exec
  have hb := B.bytes
  have hr := B.returns
  have hown : s.vm.findClass RX5 = some m.cls := findClass_of_methodNamed B.named
  have hlocks := B.notSynchronized
  have hS : va_S (An s.heap.size) s.heap s.heap [] := va_S.rf
  have hE := lg_entry_eq m [.int p0] 1
  rw [← hav] at hE
  rw [hE]
  have hl := lv_entry [.int p0] (n := 1) (Nat.le_of_ble_eq_true rfl)
  generalize (lg_sl [.int p0] ++ List.replicate (1 - (lg_sl [.int p0]).length) Slot.unset).toArray = ls at hl ⊢
  have hl : lv_has ls 1 [(0, .int p0)] := hl
  have fin : ∀ (i pc : Nat), i < 8 → widx p0 = i → decode cX5_wordOf pc = .ok (.ldc (81 + 2 * i), 2) → decode cX5_wordOf (pc + 2) = .ok (.areturn, 1) → W p l e (headSpec wsX5_wordOf rmX5_wordOf).room s m args below meth c s.heap [] 0 0 (MQ below (QrR s.heap.size (adK (widx p0))) args s 0 0 (An s.heap.size)) (F0 m pc ls []) := by
    intro i pc hi hw d1 d2
    refine va_ldcS (own := RX5) hx hb hown (hSD.2.1 i hi) d1 ?_
    exact W.aret hx hb hr (Or.inl ⟨_, rfl⟩) (Or.inr ⟨_, rfl⟩) (fun t ht hW => ⟨⟨(), adK i, rfl, trivial, by rw [hw]⟩, hS.F ht⟩) hS.2.2 d2 hlocks
  refine lv_iload_n hx hb dX5_wordOf_0 rfl (lv_at hl 0 rfl) ?_
  by_cases c0 : p0 = 0
  · refine lv_tableIn (tgt := 44) hx hb dX5_wordOf_1 (by rw [c0]; decide) (by rw [c0]; decide) (by rw [c0]; rfl) (by decide) ?_
    exact fin 0 44 (by decide) (by rw [c0]; rfl) dX5_wordOf_44 dX5_wordOf_46
  by_cases c1 : p0 = 1
  · refine lv_tableIn (tgt := 47) hx hb dX5_wordOf_1 (by rw [c1]; decide) (by rw [c1]; decide) (by rw [c1]; rfl) (by decide) ?_
    exact fin 1 47 (by decide) (by rw [c1]; rfl) dX5_wordOf_47 dX5_wordOf_49
  by_cases c2 : p0 = 2
  · refine lv_tableIn (tgt := 50) hx hb dX5_wordOf_1 (by rw [c2]; decide) (by rw [c2]; decide) (by rw [c2]; rfl) (by decide) ?_
    exact fin 2 50 (by decide) (by rw [c2]; rfl) dX5_wordOf_50 dX5_wordOf_52
  by_cases c3 : p0 = 3
  · refine lv_tableIn (tgt := 53) hx hb dX5_wordOf_1 (by rw [c3]; decide) (by rw [c3]; decide) (by rw [c3]; rfl) (by decide) ?_
    exact fin 3 53 (by decide) (by rw [c3]; rfl) dX5_wordOf_53 dX5_wordOf_55
  by_cases c4 : p0 = 4
  · refine lv_tableIn (tgt := 56) hx hb dX5_wordOf_1 (by rw [c4]; decide) (by rw [c4]; decide) (by rw [c4]; rfl) (by decide) ?_
    exact fin 4 56 (by decide) (by rw [c4]; rfl) dX5_wordOf_56 dX5_wordOf_58
  by_cases c5 : p0 = 5
  · refine lv_tableIn (tgt := 59) hx hb dX5_wordOf_1 (by rw [c5]; decide) (by rw [c5]; decide) (by rw [c5]; rfl) (by decide) ?_
    exact fin 5 59 (by decide) (by rw [c5]; rfl) dX5_wordOf_59 dX5_wordOf_61
  by_cases c6 : p0 = 6
  · refine lv_tableIn (tgt := 62) hx hb dX5_wordOf_1 (by rw [c6]; decide) (by rw [c6]; decide) (by rw [c6]; rfl) (by decide) ?_
    exact fin 6 62 (by decide) (by rw [c6]; rfl) dX5_wordOf_62 dX5_wordOf_64
  have hsw : Int32.toInt p0 < 0 ∨ 6 < Int32.toInt p0 := by
    have q0 := ne_toInt c0
    rw [show Int32.toInt 0 = 0 from rfl] at q0
    have q1 := ne_toInt c1
    rw [show Int32.toInt 1 = 1 from rfl] at q1
    have q2 := ne_toInt c2
    rw [show Int32.toInt 2 = 2 from rfl] at q2
    have q3 := ne_toInt c3
    rw [show Int32.toInt 3 = 3 from rfl] at q3
    have q4 := ne_toInt c4
    rw [show Int32.toInt 4 = 4 from rfl] at q4
    have q5 := ne_toInt c5
    rw [show Int32.toInt 5 = 5 from rfl] at q5
    have q6 := ne_toInt c6
    rw [show Int32.toInt 6 = 6 from rfl] at q6
    omega
  refine lv_tableOut (tgt := 65) hx hb dX5_wordOf_1 hsw (by decide) ?_
  exact fin 7 65 (by decide) (by unfold widx; simp [c0, c1, c2, c3, c4, c5, c6]) dX5_wordOf_65 dX5_wordOf_67
