def f_X2_splits (p0 : Int32) (p1 : Int32) (w_over : Nat → Int32) : Option (Int32) :=
  ri w_over 12 (p0) fun x1 =>
  lt ((p1 &&& x1) : Int32) fun x3 =>
  if x3 = 0 then
    some (0)
  else
    if x3 = p1 then
      some (0)
    else
      some (1)
abbrev rmX2_splits : Room := { frames := 0, cells := 0, slots := 0, locals := 0 }
set_option maxHeartbeats 4000000 in
set_option maxRecDepth 100000 in
theorem c_X2_splits {l : Launch} {D : va_G} {g : Nat → ClassId} {ad : Nat → Nat} {C : Nat → va_E} {sz : Nat} {w_src : Int32} {w_over : Nat → Int32} {h_solved : Int32} {p0 : Int32} {p1 : Int32} {rr : Int32} (h19 : C 19 = .inr (9, [.ref (ad 5), .ref (ad 20), .int w_src])) (h20 : C 20 = aI g 12 w_over) (h77 : C 77 = .inr (2, [.ref (ad 5), .ref (ad 19), .ref (ad 78), .ref (ad 79), .ref (ad 80), .int h_solved])) (hf : f_X2_splits p0 p1 w_over = some rr) : Met l yX2_splits wsX2_splits rmX2_splits (PcW D g 109 ad C sz [.ref (ad 77), .int p0, .int p1]) (QiR sz bz rr) 0 0 (An sz) := by
  refine Met.ofW (cc := cX2_splits) (maxL := 4) (ret := (some .boolean)) (by decide) rfl ?_
  intro p e s m args below meth c s₁ B hml hv
  obtain ⟨hav, hsz, hK, hP⟩ := hv
  subst hsz
  have hx := B.exec
  have hb := B.bytes
  have hr := B.returns
  have hts := atoms_spec (ws := wsX2_splits) B.pre
  have hown : s.vm.findClass RX2 = some m.cls := findClass_of_methodNamed B.named
  have hlocks := B.notSynchronized
  generalize hQ : MQ below (QiR s.heap.size bz rr) args s 0 0 (An s.heap.size) = QQ
  have hS : va_S (An s.heap.size) s.heap s.heap [] := va_S.rf
  have hA : ∀ q, s.heap.size ≤ q → (An s.heap.size) q := fun q h => h
  have k0 := hts (.fieldLink RX2 25 "UpDrain$Hunt" "ways" "LUpDrain$Ways;") (List.mem_of_getElem? (i := 1) rfl)
  have nX2 : ∀ w ∈ u_ws RX2 TX2 6, w ∈ wsX2_splits := fun _ h => List.mem_cons_of_mem _ (List.mem_append_left _ (List.mem_append_right _ h))
  have k2 := nf_49 (A := args) hK
  have nX9 : ∀ w ∈ u_ws RX9 TX9 3, w ∈ wsX2_splits := fun _ h => List.mem_cons_of_mem _ (List.mem_append_right _ h)
  have hE := lg_entry_eq m [.ref (ad 77), .int p0, .int p1] 4
  rw [← hav] at hE
  rw [hE]
  have hl := lv_entry [.ref (ad 77), .int p0, .int p1] (n := 4) (Nat.le_of_ble_eq_true rfl)
  generalize (lg_sl [.ref (ad 77), .int p0, .int p1] ++ List.replicate (4 - (lg_sl [.ref (ad 77), .int p0, .int p1]).length) Slot.unset).toArray = ls at hl ⊢
  have hl : lv_has ls 4 [(0, .ref (ad 77)), (1, .int p0), (2, .int p1)] := hl
  clear hE
  unfold f_X2_splits at hf
  suffices hgo : ∀ (H : Heap) (locs : List Loc), va_P D vwCl (wd 109 ad C) H → va_S (An s.heap.size) s.heap H locs → W p l e (headSpec wsX2_splits rmX2_splits).room s m args below meth c H locs 0 0 QQ (F0 m 0 ls []) from hgo s.heap [] hP hS
  clear hS hP
  intro H locs hP hS
  refine lv_iload_n hx hb dX2_splits_0 rfl (lv_at hl 2 rfl) ?_
  refine lv_aload_n hx hb dX2_splits_1 rfl (lv_at hl 0 rfl) ?_
  refine r_get (own := RX2) (T := TX2) (n := 6) (ci := 2) (v := .ref (ad 19)) hx hb hts nX2 hown hK hP (by decide) h77 rfl 1 (by decide) k0 rfl dX2_splits_2 ?_
  refine r_getN (own := RX2) (T := TX9) (n := 3) (ci := 9) (v := .ref (ad 20)) hx hb hts nX9 hown hK hP (by decide) h19 rfl 1 (by decide) k2 rfl dX2_splits_5 ?_
  refine lv_iload_n hx hb dX2_splits_8 rfl (lv_at hl 1 rfl) ?_
  obtain ⟨i2, x1, ex1, hf⟩ := ri_e hf
  refine r_iald hx hb hK hP (by decide) h20 i2 dX2_splits_9 ex1 ?_
  refine lv_iand hx hb dX2_splits_10 ?_
  obtain ⟨x3, ex3, hf⟩ := lt_e hf
  refine tp_i ex3 ?_
  refine lv_istore_n (lv' := [(3, .int x3), (0, .ref (ad 77)), (1, .int p0), (2, .int p1)]) hx hb dX2_splits_11 rfl hl (by decide) rfl (fun ls hl => ?_)
  refine lv_iload_n hx hb dX2_splits_12 rfl (lv_at hl 0 rfl) ?_
  refine lv_if_eq (tgt := 25) hx hb dX2_splits_13 (by decide) (fun c4 => ?_) (fun c4 => ?_)
  · have hf := it_e c4 hf
    refine lv_iconst (v := 0) hx hb dX2_splits_25 (by decide) ?_
    obtain rfl := Option.some.inj hf
    rw [← hQ]
    exact e_zR hx hb hr rfl bz0 hS hlocks dX2_splits_26
  · have hf := ie_e c4 hf
    refine lv_iload_n hx hb dX2_splits_16 rfl (lv_at hl 0 rfl) ?_
    refine lv_iload_n hx hb dX2_splits_17 rfl (lv_at hl 3 rfl) ?_
    refine lv_icmp_eq (tgt := 25) hx hb dX2_splits_18 (by decide) (fun c5 => ?_) (fun c5 => ?_)
    · have hf := it_e c5 hf
      refine lv_iconst (v := 0) hx hb dX2_splits_25 (by decide) ?_
      obtain rfl := Option.some.inj hf
      rw [← hQ]
      exact e_zR hx hb hr rfl bz0 hS hlocks dX2_splits_26
    · have hf := ie_e c5 hf
      refine lv_iconst (v := 1) hx hb dX2_splits_21 (by decide) ?_
      refine lv_goto (tgt := 26) hx hb dX2_splits_22 (by decide) ?_
      obtain rfl := Option.some.inj hf
      rw [← hQ]
      exact e_zR hx hb hr rfl bz1 hS hlocks dX2_splits_26

def LX2_markPartsOf_2 (p0 : Int32) (w_over : Nat → Int32) (hn1 : Nat) (ko : Int32 → (Nat → Int32) → Option ((Nat → Int32))) : Nat → Int32 → (Nat → Int32) → Option ((Nat → Int32))
  | 0, _, _ => none
  | n + 1, x1, f2 =>
    if 12 ≤ x1 then
      ko x1 f2
    else
      (f_X2_splits x1 p0 w_over).bind fun q6 =>
      (if q6 = 0 then
        some (f2)
      else
        ri w_over 12 (x1) fun x10 =>
        lt ((p0 &&& x10) : Int32) fun x12 =>
        wi f2 hn1 (x12) (1000000) fun f13 =>
        wi f13 hn1 ((p0 ^^^ x12)) (1000000) fun f15 =>
        some (f15) : Option ((Nat → Int32))).bind fun q7 =>
      lt (x1 + 1 : Int32) fun x8 =>
      LX2_markPartsOf_2 p0 w_over hn1 ko n x8 q7
theorem LX2_markPartsOf_2_z (p0 : Int32) (w_over : Nat → Int32) (hn1 : Nat) (ko : Int32 → (Nat → Int32) → Option ((Nat → Int32))) (x1 : Int32) (f2 : Nat → Int32) : LX2_markPartsOf_2 p0 w_over hn1 ko 0 x1 f2 = none := rfl
theorem LX2_markPartsOf_2_s (p0 : Int32) (w_over : Nat → Int32) (hn1 : Nat) (ko : Int32 → (Nat → Int32) → Option ((Nat → Int32))) (n : Nat) (x1 : Int32) (f2 : Nat → Int32) : LX2_markPartsOf_2 p0 w_over hn1 ko (n + 1) x1 f2 =
    if 12 ≤ x1 then
      ko x1 f2
    else
      (f_X2_splits x1 p0 w_over).bind fun q6 =>
      (if q6 = 0 then
        some (f2)
      else
        ri w_over 12 (x1) fun x10 =>
        lt ((p0 &&& x10) : Int32) fun x12 =>
        wi f2 hn1 (x12) (1000000) fun f13 =>
        wi f13 hn1 ((p0 ^^^ x12)) (1000000) fun f15 =>
        some (f15) : Option ((Nat → Int32))).bind fun q7 =>
      lt (x1 + 1 : Int32) fun x8 =>
      LX2_markPartsOf_2 p0 w_over hn1 ko n x8 q7 := rfl
def f_X2_markPartsOf (p0 : Int32) (w_over : Nat → Int32) (h_few : Nat → Int32) (hn1 : Nat) : Option ((Nat → Int32)) :=
  LX2_markPartsOf_2 p0 w_over hn1 (fun x3 f4 =>
    some (f4)) FU 0 h_few
abbrev rmX2_markPartsOf : Room := { frames := 1, cells := 0, slots := 0, locals := 23 }
set_option maxHeartbeats 4000000 in
set_option maxRecDepth 100000 in
theorem c_X2_markPartsOf {l : Launch} {D : va_G} {g : Nat → ClassId} {ad : Nat → Nat} {C : Nat → va_E} {sz : Nat} {w_src : Int32} {w_over : Nat → Int32} {h_solved : Int32} {hn1 : Nat} {h_few : Nat → Int32} {p0 : Int32} {rr : (Nat → Int32)} (hI : Inj 109 ad) (h19 : C 19 = .inr (9, [.ref (ad 5), .ref (ad 20), .int w_src])) (h20 : C 20 = aI g 12 w_over) (h77 : C 77 = .inr (2, [.ref (ad 5), .ref (ad 19), .ref (ad 78), .ref (ad 79), .ref (ad 80), .int h_solved])) (h78 : C 78 = aI g hn1 h_few) (hf : f_X2_markPartsOf p0 w_over h_few hn1 = some rr) : Met l yX2_markPartsOf wsX2_markPartsOf rmX2_markPartsOf (PcW D g 109 ad C sz [.ref (ad 77), .int p0]) (QvW D 109 ad sz (fun C' => (∀ i : Nat, i ≠ 78 → C' i = C i) ∧ (C' 78 = aI g hn1 rr))) 0 0 (Aw 109 ad sz) := by
  refine Met.ofW (cc := cX2_markPartsOf) (maxL := 4) (ret := none) (by decide) rfl ?_
  intro p e s m args below meth c s₁ B hml hv
  obtain ⟨hav, hsz, hK, hP⟩ := hv
  subst hsz
  have hx := B.exec
  have hb := B.bytes
  have hr := B.returns
  have hts := atoms_spec (ws := wsX2_markPartsOf) B.pre
  have hown : s.vm.findClass RX2 = some m.cls := findClass_of_methodNamed B.named
  have hlocks := B.notSynchronized
  generalize hQ : MQ below (QvW D 109 ad s.heap.size (fun C' => (∀ i : Nat, i ≠ 78 → C' i = C i) ∧ (C' 78 = aI g hn1 rr))) args s 0 0 (Aw 109 ad s.heap.size) = QQ
  have hS : va_S (Aw 109 ad s.heap.size) s.heap s.heap [] := va_S.rf
  have hA : ∀ q, s.heap.size ≤ q → (Aw 109 ad s.heap.size) q := fun q h => Or.inr h
  have hAd : ∀ j : Nat, j < 109 → (Aw 109 ad s.heap.size) (ad j) := fun j h => Or.inl ⟨j, h, rfl⟩
  obtain ⟨C0, hC0⟩ : ∃ C0 : Nat → va_E, C0 = C := ⟨_, rfl⟩
  have hag : ∀ i : Nat, i ≠ 78 → C i = C0 i := fun i _ => by rw [hC0]
  rw [← hC0] at hQ
  have k0 := hts (.fieldLink RX2 25 "UpDrain$Hunt" "ways" "LUpDrain$Ways;") (List.mem_of_getElem? (i := 1) rfl)
  have nX2 : ∀ w ∈ u_ws RX2 TX2 6, w ∈ wsX2_markPartsOf := fun _ h => List.mem_cons_of_mem _ (List.mem_append_left _ (List.mem_append_right _ h))
  have k2 := nf_49 (A := args) hK
  have nX9 : ∀ w ∈ u_ws RX9 TX9 3, w ∈ wsX2_markPartsOf := fun _ h => List.mem_cons_of_mem _ (List.mem_append_right _ h)
  have k4 := hts (.fieldLink RX2 9 "UpDrain$Hunt" "fewestLids" "[I") (List.mem_of_getElem? (i := 2) rfl)
  have k5 := hts (.constant RX2 49 (1000000)) (List.mem_of_getElem? (i := 3) rfl)
  have hE := lg_entry_eq m [.ref (ad 77), .int p0] 4
  rw [← hav] at hE
  rw [hE]
  have hl := lv_entry [.ref (ad 77), .int p0] (n := 4) (Nat.le_of_ble_eq_true rfl)
  generalize (lg_sl [.ref (ad 77), .int p0] ++ List.replicate (4 - (lg_sl [.ref (ad 77), .int p0]).length) Slot.unset).toArray = ls at hl ⊢
  have hl : lv_has ls 4 [(0, .ref (ad 77)), (1, .int p0)] := hl
  clear hE
  unfold f_X2_markPartsOf at hf
  suffices hgo : ∀ (H : Heap) (locs : List Loc), va_P D vwCl (wd 109 ad C) H → va_S (Aw 109 ad s.heap.size) s.heap H locs → W p l e (headSpec wsX2_markPartsOf rmX2_markPartsOf).room s m args below meth c H locs 0 0 QQ (F0 m 0 ls []) from hgo s.heap [] hP hS
  clear hS hP
  intro H locs hP hS
  refine lv_iconst (v := 0) hx hb dX2_markPartsOf_0 (by decide) ?_
  refine lv_istore_n (lv' := [(2, .int 0), (0, .ref (ad 77)), (1, .int p0)]) hx hb dX2_markPartsOf_1 rfl hl (by decide) rfl (fun ls hl => ?_)
  have key2 : ∀ (ko : Int32 → (Nat → Int32) → Option ((Nat → Int32))), (∀ (x3 : Int32) (f4 : Nat → Int32) (C : Nat → va_E) (H : Heap) (locs : List Loc) (ls : Array Slot), va_P D vwCl (wd 109 ad C) H → va_S (Aw 109 ad s.heap.size) s.heap H locs → (∀ i : Nat, i ≠ 78 → C i = C0 i) → C 19 = .inr (9, [.ref (ad 5), .ref (ad 20), .int w_src]) → C 20 = aI g 12 w_over → C 77 = .inr (2, [.ref (ad 5), .ref (ad 19), .ref (ad 78), .ref (ad 79), .ref (ad 80), .int h_solved]) → C 78 = aI g hn1 f4 → lv_has ls 4 [(0, .ref (ad 77)), (1, .int p0), (2, .int x3)] → ko x3 f4 = some rr → W p l e (headSpec wsX2_markPartsOf rmX2_markPartsOf).room s m args below meth c H locs 0 0 QQ (F0 m 53 ls [])) → ∀ (n : Nat) (x1 : Int32) (f2 : Nat → Int32) (C : Nat → va_E) (H : Heap) (locs : List Loc) (ls : Array Slot), va_P D vwCl (wd 109 ad C) H → va_S (Aw 109 ad s.heap.size) s.heap H locs → (∀ i : Nat, i ≠ 78 → C i = C0 i) → C 19 = .inr (9, [.ref (ad 5), .ref (ad 20), .int w_src]) → C 20 = aI g 12 w_over → C 77 = .inr (2, [.ref (ad 5), .ref (ad 19), .ref (ad 78), .ref (ad 79), .ref (ad 80), .int h_solved]) → C 78 = aI g hn1 f2 → lv_has ls 4 [(0, .ref (ad 77)), (1, .int p0), (2, .int x1)] → LX2_markPartsOf_2 p0 w_over hn1 ko n x1 f2 = some rr → W p l e (headSpec wsX2_markPartsOf rmX2_markPartsOf).room s m args below meth c H locs 0 0 QQ (F0 m 2 ls []) := by
    intro ko hko n
    induction n with
    | zero =>
      intro x1 f2 C H locs ls hP hS hag h19 h20 h77 h78 hl hf
      rw [LX2_markPartsOf_2_z] at hf
      cases hf
    | succ n ih =>
      intro x1 f2 C H locs ls hP hS hag h19 h20 h77 h78 hl hf
      rw [LX2_markPartsOf_2_s] at hf
      refine lv_iload_n hx hb dX2_markPartsOf_2 rfl (lv_at hl 2 rfl) ?_
      refine lv_bipush (v := 12) hx hb dX2_markPartsOf_3 (by decide) ?_
      refine lv_icmp_ge (tgt := 53) hx hb dX2_markPartsOf_5 (by decide) (fun c5 => ?_) (fun c5 => ?_)
      · have hf := it_e c5 hf
        exact hko x1 f2 C H locs ls hP hS hag h19 h20 h77 h78 (lv_sub hl [0, 1, 2] rfl) hf
      · have hf := ie_e c5 hf
        refine lv_aload_n hx hb dX2_markPartsOf_8 rfl (lv_at hl 0 rfl) ?_
        refine lv_iload_n hx hb dX2_markPartsOf_9 rfl (lv_at hl 2 rfl) ?_
        refine lv_iload_n hx hb dX2_markPartsOf_10 rfl (lv_at hl 1 rfl) ?_
        obtain ⟨q6, hq6, hf⟩ := bd_e hf
        refine k_iR (va_runV (C := RX2) (As := [.int x1, .int p0]) (rest := []) ⟨hx, hb, hml, hown, hts⟩ (c_X2_splits (l := l) (sz := H.size) (p0 := x1) (p1 := p0) h19 h20 h77 hq6) (cwV 2 hts gX2_markPartsOf_X2_splits rfl rfl rfl (by decide +kernel) ⟨Nat.le_of_ble_eq_true rfl, Nat.le_of_ble_eq_true rfl⟩) (preV_of hK hP (by decide) h77 rfl) rfl rfl hl.1 rfl (lv_room (Nat.le_of_ble_eq_true rfl)) dX2_markPartsOf_11 ⟨Nat.le_refl _, Nat.le_refl _⟩) hA hP hS (fun H locs hP hS hbz_q6 => ?_)
        obtain ⟨q7, htq7, hf⟩ := bd_e hf
        have jnq7 : ∀ (C : Nat → va_E) (H : Heap) (locs : List Loc) (ls : Array Slot), va_P D vwCl (wd 109 ad C) H → va_S (Aw 109 ad s.heap.size) s.heap H locs → (∀ i : Nat, i ≠ 78 → C i = C0 i) → C 19 = .inr (9, [.ref (ad 5), .ref (ad 20), .int w_src]) → C 20 = aI g 12 w_over → C 77 = .inr (2, [.ref (ad 5), .ref (ad 19), .ref (ad 78), .ref (ad 79), .ref (ad 80), .int h_solved]) → C 78 = aI g hn1 q7 → lv_has ls 4 [(0, .ref (ad 77)), (1, .int p0), (2, .int x1)] → W p l e (headSpec wsX2_markPartsOf rmX2_markPartsOf).room s m args below meth c H locs 0 0 QQ (F0 m 47 ls []) := by
          intro C H locs ls hP hS hag h19 h20 h77 h78 hl
          obtain ⟨x8, ex8, hf⟩ := lt_e hf
          refine lv_iinc (v := x8) (lv' := [(2, .int x8), (0, .ref (ad 77)), (1, .int p0)]) hx hb dX2_markPartsOf_47 hl (k := 2) rfl (by rw [ex8]; rfl) (by decide) rfl (fun ls hl => ?_)
          refine lv_goto (tgt := 2) hx hb dX2_markPartsOf_50 (by decide) ?_
          exact ih x8 q7 C H locs ls hP hS hag h19 h20 h77 h78 (lv_sub hl [1, 2, 0] rfl) hf
        clear hf
        have hf := htq7
        refine lv_if_eq (tgt := 47) hx hb dX2_markPartsOf_14 (by decide) (fun c9 => ?_) (fun c9 => ?_)
        · have hf := it_e c9 hf
          obtain rfl := Option.some.inj hf
          exact jnq7 C H locs ls hP hS hag h19 h20 h77 h78 (lv_sub hl [0, 1, 2] rfl)
        · have hf := ie_e c9 hf
          refine lv_iload_n hx hb dX2_markPartsOf_17 rfl (lv_at hl 1 rfl) ?_
          refine lv_aload_n hx hb dX2_markPartsOf_18 rfl (lv_at hl 0 rfl) ?_
          refine r_get (own := RX2) (T := TX2) (n := 6) (ci := 2) (v := .ref (ad 19)) hx hb hts nX2 hown hK hP (by decide) h77 rfl 1 (by decide) k0 rfl dX2_markPartsOf_19 ?_
          refine r_getN (own := RX2) (T := TX9) (n := 3) (ci := 9) (v := .ref (ad 20)) hx hb hts nX9 hown hK hP (by decide) h19 rfl 1 (by decide) k2 rfl dX2_markPartsOf_22 ?_
          refine lv_iload_n hx hb dX2_markPartsOf_25 rfl (lv_at hl 2 rfl) ?_
          obtain ⟨i11, x10, ex10, hf⟩ := ri_e hf
          refine r_iald hx hb hK hP (by decide) h20 i11 dX2_markPartsOf_26 ex10 ?_
          refine lv_iand hx hb dX2_markPartsOf_27 ?_
          obtain ⟨x12, ex12, hf⟩ := lt_e hf
          refine tp_i ex12 ?_
          refine lv_istore_n (lv' := [(3, .int x12), (0, .ref (ad 77)), (1, .int p0), (2, .int x1)]) hx hb dX2_markPartsOf_28 rfl hl (by decide) rfl (fun ls hl => ?_)
          refine lv_aload_n hx hb dX2_markPartsOf_29 rfl (lv_at hl 1 rfl) ?_
          refine r_get (own := RX2) (T := TX2) (n := 6) (ci := 2) (v := .ref (ad 78)) hx hb hts nX2 hown hK hP (by decide) h77 rfl 2 (by decide) k4 rfl dX2_markPartsOf_30 ?_
          refine lv_iload_n hx hb dX2_markPartsOf_33 rfl (lv_at hl 0 rfl) ?_
          refine lv_ldc (own := RX2) hx hb hown k5 dX2_markPartsOf_34 ?_
          obtain ⟨i14, f13, ef13, hf⟩ := wi_e hf
          refine r_iast hx hb hK hI hAd hP hS (by decide) h78 i14 dX2_markPartsOf_36 ef13 (fun C H locs hP hS he hn => ?_)
          have hag : ∀ i : Nat, i ≠ 78 → C i = C0 i := fun i h => (he i (by omega)).trans (hag i h)
          have h19 := (he 19 (by decide)).trans h19
          have h20 := (he 20 (by decide)).trans h20
          have h77 := (he 77 (by decide)).trans h77
          have h78 : C 78 = aI g hn1 f13 := hn
          refine lv_aload_n hx hb dX2_markPartsOf_37 rfl (lv_at hl 1 rfl) ?_
          refine r_get (own := RX2) (T := TX2) (n := 6) (ci := 2) (v := .ref (ad 78)) hx hb hts nX2 hown hK hP (by decide) h77 rfl 2 (by decide) k4 rfl dX2_markPartsOf_38 ?_
          refine lv_iload_n hx hb dX2_markPartsOf_41 rfl (lv_at hl 2 rfl) ?_
          refine lv_iload_n hx hb dX2_markPartsOf_42 rfl (lv_at hl 0 rfl) ?_
          refine lv_ixor hx hb dX2_markPartsOf_43 ?_
          refine lv_ldc (own := RX2) hx hb hown k5 dX2_markPartsOf_44 ?_
          obtain ⟨i16, f15, ef15, hf⟩ := wi_e hf
          refine r_iast hx hb hK hI hAd hP hS (by decide) h78 i16 dX2_markPartsOf_46 ef15 (fun C H locs hP hS he hn => ?_)
          have hag : ∀ i : Nat, i ≠ 78 → C i = C0 i := fun i h => (he i (by omega)).trans (hag i h)
          have h19 := (he 19 (by decide)).trans h19
          have h20 := (he 20 (by decide)).trans h20
          have h77 := (he 77 (by decide)).trans h77
          have h78 : C 78 = aI g hn1 f15 := hn
          obtain rfl := Option.some.inj hf
          exact jnq7 C H locs ls hP hS hag h19 h20 h77 h78 (lv_sub hl [1, 2, 3] rfl)
  refine key2 _ (fun x3 f4 C H locs ls hP hS hag h19 h20 h77 h78 hl hf => ?_) FU 0 h_few C H locs ls hP hS hag h19 h20 h77 h78 (lv_sub hl [1, 2, 0] rfl) hf
  obtain rfl := Option.some.inj hf
  rw [← hQ]
  exact e_vW hx hb hr hP hS ⟨hag, h78⟩ hlocks dX2_markPartsOf_53

def LX2_markWhatMayBeLeft_2 (p0 : Int32) (hn1 : Nat) (ko : Int32 → (Nat → Int32) → Option ((Nat → Int32))) : Nat → Int32 → (Nat → Int32) → Option ((Nat → Int32))
  | 0, _, _ => none
  | n + 1, x1, f2 =>
    if p0 < x1 then
      ko x1 f2
    else
      wi f2 hn1 (x1) ((-1)) fun f6 =>
      lt (x1 + 1 : Int32) fun x8 =>
      LX2_markWhatMayBeLeft_2 p0 hn1 ko n x8 f6
theorem LX2_markWhatMayBeLeft_2_z (p0 : Int32) (hn1 : Nat) (ko : Int32 → (Nat → Int32) → Option ((Nat → Int32))) (x1 : Int32) (f2 : Nat → Int32) : LX2_markWhatMayBeLeft_2 p0 hn1 ko 0 x1 f2 = none := rfl
theorem LX2_markWhatMayBeLeft_2_s (p0 : Int32) (hn1 : Nat) (ko : Int32 → (Nat → Int32) → Option ((Nat → Int32))) (n : Nat) (x1 : Int32) (f2 : Nat → Int32) : LX2_markWhatMayBeLeft_2 p0 hn1 ko (n + 1) x1 f2 =
    if p0 < x1 then
      ko x1 f2
    else
      wi f2 hn1 (x1) ((-1)) fun f6 =>
      lt (x1 + 1 : Int32) fun x8 =>
      LX2_markWhatMayBeLeft_2 p0 hn1 ko n x8 f6 := rfl
def LX2_markWhatMayBeLeft_30 (w_over : Nat → Int32) (hn1 : Nat) (ko : Int32 → (Nat → Int32) → Option ((Nat → Int32))) : Nat → Int32 → (Nat → Int32) → Option ((Nat → Int32))
  | 0, _, _ => none
  | n + 1, x11, f12 =>
    if x11 ≤ 0 then
      ko x11 f12
    else
      ri f12 hn1 (x11) fun x16 =>
      (if x16 = (-1) then
        some (f12)
      else
        (f_X2_markPartsOf x11 w_over f12 hn1).bind fun q21 =>
        some (q21) : Option ((Nat → Int32))).bind fun q18 =>
      lt (x11 + (-1) : Int32) fun x19 =>
      LX2_markWhatMayBeLeft_30 w_over hn1 ko n x19 q18
theorem LX2_markWhatMayBeLeft_30_z (w_over : Nat → Int32) (hn1 : Nat) (ko : Int32 → (Nat → Int32) → Option ((Nat → Int32))) (x11 : Int32) (f12 : Nat → Int32) : LX2_markWhatMayBeLeft_30 w_over hn1 ko 0 x11 f12 = none := rfl
theorem LX2_markWhatMayBeLeft_30_s (w_over : Nat → Int32) (hn1 : Nat) (ko : Int32 → (Nat → Int32) → Option ((Nat → Int32))) (n : Nat) (x11 : Int32) (f12 : Nat → Int32) : LX2_markWhatMayBeLeft_30 w_over hn1 ko (n + 1) x11 f12 =
    if x11 ≤ 0 then
      ko x11 f12
    else
      ri f12 hn1 (x11) fun x16 =>
      (if x16 = (-1) then
        some (f12)
      else
        (f_X2_markPartsOf x11 w_over f12 hn1).bind fun q21 =>
        some (q21) : Option ((Nat → Int32))).bind fun q18 =>
      lt (x11 + (-1) : Int32) fun x19 =>
      LX2_markWhatMayBeLeft_30 w_over hn1 ko n x19 q18 := rfl
def f_X2_markWhatMayBeLeft (p0 : Int32) (w_over : Nat → Int32) (h_few : Nat → Int32) (hn1 : Nat) : Option ((Nat → Int32)) :=
  LX2_markWhatMayBeLeft_2 p0 hn1 (fun x3 f4 =>
    wi f4 hn1 (p0) (1000000) fun f9 =>
    LX2_markWhatMayBeLeft_30 w_over hn1 (fun x13 f14 =>
      some (f14)) FU p0 f9) FU 0 h_few
abbrev rmX2_markWhatMayBeLeft : Room := { frames := 2, cells := 0, slots := 0, locals := 46 }
set_option maxHeartbeats 4000000 in
set_option maxRecDepth 100000 in
theorem c_X2_markWhatMayBeLeft {l : Launch} {D : va_G} {g : Nat → ClassId} {ad : Nat → Nat} {C : Nat → va_E} {sz : Nat} {w_src : Int32} {w_over : Nat → Int32} {h_solved : Int32} {hn1 : Nat} {h_few : Nat → Int32} {p0 : Int32} {rr : (Nat → Int32)} (hI : Inj 109 ad) (h19 : C 19 = .inr (9, [.ref (ad 5), .ref (ad 20), .int w_src])) (h20 : C 20 = aI g 12 w_over) (h77 : C 77 = .inr (2, [.ref (ad 5), .ref (ad 19), .ref (ad 78), .ref (ad 79), .ref (ad 80), .int h_solved])) (h78 : C 78 = aI g hn1 h_few) (hf : f_X2_markWhatMayBeLeft p0 w_over h_few hn1 = some rr) : Met l yX2_markWhatMayBeLeft wsX2_markWhatMayBeLeft rmX2_markWhatMayBeLeft (PcW D g 109 ad C sz [.ref (ad 77), .int p0]) (QvW D 109 ad sz (fun C' => (∀ i : Nat, i ≠ 78 → C' i = C i) ∧ (C' 78 = aI g hn1 rr))) 0 0 (Aw 109 ad sz) := by
  refine Met.ofW (cc := cX2_markWhatMayBeLeft) (maxL := 3) (ret := none) (by decide) rfl ?_
  intro p e s m args below meth c s₁ B hml hv
  obtain ⟨hav, hsz, hK, hP⟩ := hv
  subst hsz
  have hx := B.exec
  have hb := B.bytes
  have hr := B.returns
  have hts := atoms_spec (ws := wsX2_markWhatMayBeLeft) B.pre
  have hown : s.vm.findClass RX2 = some m.cls := findClass_of_methodNamed B.named
  have hlocks := B.notSynchronized
  generalize hQ : MQ below (QvW D 109 ad s.heap.size (fun C' => (∀ i : Nat, i ≠ 78 → C' i = C i) ∧ (C' 78 = aI g hn1 rr))) args s 0 0 (Aw 109 ad s.heap.size) = QQ
  have hS : va_S (Aw 109 ad s.heap.size) s.heap s.heap [] := va_S.rf
  have hA : ∀ q, s.heap.size ≤ q → (Aw 109 ad s.heap.size) q := fun q h => Or.inr h
  have hAd : ∀ j : Nat, j < 109 → (Aw 109 ad s.heap.size) (ad j) := fun j h => Or.inl ⟨j, h, rfl⟩
  obtain ⟨C0, hC0⟩ : ∃ C0 : Nat → va_E, C0 = C := ⟨_, rfl⟩
  have hag : ∀ i : Nat, i ≠ 78 → C i = C0 i := fun i _ => by rw [hC0]
  rw [← hC0] at hQ
  have k0 := hts (.fieldLink RX2 9 "UpDrain$Hunt" "fewestLids" "[I") (List.mem_of_getElem? (i := 1) rfl)
  have nX2 : ∀ w ∈ u_ws RX2 TX2 6, w ∈ wsX2_markWhatMayBeLeft := fun _ h => List.mem_cons_of_mem _ (List.mem_append_left _ (List.mem_append_right _ h))
  have k2 := hts (.constant RX2 49 (1000000)) (List.mem_of_getElem? (i := 2) rfl)
  have hE := lg_entry_eq m [.ref (ad 77), .int p0] 3
  rw [← hav] at hE
  rw [hE]
  have hl := lv_entry [.ref (ad 77), .int p0] (n := 3) (Nat.le_of_ble_eq_true rfl)
  generalize (lg_sl [.ref (ad 77), .int p0] ++ List.replicate (3 - (lg_sl [.ref (ad 77), .int p0]).length) Slot.unset).toArray = ls at hl ⊢
  have hl : lv_has ls 3 [(0, .ref (ad 77)), (1, .int p0)] := hl
  clear hE
  unfold f_X2_markWhatMayBeLeft at hf
  suffices hgo : ∀ (H : Heap) (locs : List Loc), va_P D vwCl (wd 109 ad C) H → va_S (Aw 109 ad s.heap.size) s.heap H locs → W p l e (headSpec wsX2_markWhatMayBeLeft rmX2_markWhatMayBeLeft).room s m args below meth c H locs 0 0 QQ (F0 m 0 ls []) from hgo s.heap [] hP hS
  clear hS hP
  intro H locs hP hS
  refine lv_iconst (v := 0) hx hb dX2_markWhatMayBeLeft_0 (by decide) ?_
  refine lv_istore_n (lv' := [(2, .int 0), (0, .ref (ad 77)), (1, .int p0)]) hx hb dX2_markWhatMayBeLeft_1 rfl hl (by decide) rfl (fun ls hl => ?_)
  have key2 : ∀ (ko : Int32 → (Nat → Int32) → Option ((Nat → Int32))), (∀ (x3 : Int32) (f4 : Nat → Int32) (C : Nat → va_E) (H : Heap) (locs : List Loc) (ls : Array Slot), va_P D vwCl (wd 109 ad C) H → va_S (Aw 109 ad s.heap.size) s.heap H locs → (∀ i : Nat, i ≠ 78 → C i = C0 i) → C 19 = .inr (9, [.ref (ad 5), .ref (ad 20), .int w_src]) → C 20 = aI g 12 w_over → C 77 = .inr (2, [.ref (ad 5), .ref (ad 19), .ref (ad 78), .ref (ad 79), .ref (ad 80), .int h_solved]) → C 78 = aI g hn1 f4 → lv_has ls 3 [(0, .ref (ad 77)), (1, .int p0), (2, .int x3)] → ko x3 f4 = some rr → W p l e (headSpec wsX2_markWhatMayBeLeft rmX2_markWhatMayBeLeft).room s m args below meth c H locs 0 0 QQ (F0 m 20 ls [])) → ∀ (n : Nat) (x1 : Int32) (f2 : Nat → Int32) (C : Nat → va_E) (H : Heap) (locs : List Loc) (ls : Array Slot), va_P D vwCl (wd 109 ad C) H → va_S (Aw 109 ad s.heap.size) s.heap H locs → (∀ i : Nat, i ≠ 78 → C i = C0 i) → C 19 = .inr (9, [.ref (ad 5), .ref (ad 20), .int w_src]) → C 20 = aI g 12 w_over → C 77 = .inr (2, [.ref (ad 5), .ref (ad 19), .ref (ad 78), .ref (ad 79), .ref (ad 80), .int h_solved]) → C 78 = aI g hn1 f2 → lv_has ls 3 [(0, .ref (ad 77)), (1, .int p0), (2, .int x1)] → LX2_markWhatMayBeLeft_2 p0 hn1 ko n x1 f2 = some rr → W p l e (headSpec wsX2_markWhatMayBeLeft rmX2_markWhatMayBeLeft).room s m args below meth c H locs 0 0 QQ (F0 m 2 ls []) := by
    intro ko hko n
    induction n with
    | zero =>
      intro x1 f2 C H locs ls hP hS hag h19 h20 h77 h78 hl hf
      rw [LX2_markWhatMayBeLeft_2_z] at hf
      cases hf
    | succ n ih =>
      intro x1 f2 C H locs ls hP hS hag h19 h20 h77 h78 hl hf
      rw [LX2_markWhatMayBeLeft_2_s] at hf
      refine lv_iload_n hx hb dX2_markWhatMayBeLeft_2 rfl (lv_at hl 2 rfl) ?_
      refine lv_iload_n hx hb dX2_markWhatMayBeLeft_3 rfl (lv_at hl 1 rfl) ?_
      refine lv_icmp_gt (tgt := 20) hx hb dX2_markWhatMayBeLeft_4 (by decide) (fun c5 => ?_) (fun c5 => ?_)
      · have hf := it_e c5 hf
        exact hko x1 f2 C H locs ls hP hS hag h19 h20 h77 h78 (lv_sub hl [0, 1, 2] rfl) hf
      · have hf := ie_e c5 hf
        refine lv_aload_n hx hb dX2_markWhatMayBeLeft_7 rfl (lv_at hl 0 rfl) ?_
        refine r_get (own := RX2) (T := TX2) (n := 6) (ci := 2) (v := .ref (ad 78)) hx hb hts nX2 hown hK hP (by decide) h77 rfl 2 (by decide) k0 rfl dX2_markWhatMayBeLeft_8 ?_
        refine lv_iload_n hx hb dX2_markWhatMayBeLeft_11 rfl (lv_at hl 2 rfl) ?_
        refine lv_iconst (v := (-1)) hx hb dX2_markWhatMayBeLeft_12 (by decide) ?_
        obtain ⟨i7, f6, ef6, hf⟩ := wi_e hf
        refine r_iast hx hb hK hI hAd hP hS (by decide) h78 i7 dX2_markWhatMayBeLeft_13 ef6 (fun C H locs hP hS he hn => ?_)
        have hag : ∀ i : Nat, i ≠ 78 → C i = C0 i := fun i h => (he i (by omega)).trans (hag i h)
        have h19 := (he 19 (by decide)).trans h19
        have h20 := (he 20 (by decide)).trans h20
        have h77 := (he 77 (by decide)).trans h77
        have h78 : C 78 = aI g hn1 f6 := hn
        obtain ⟨x8, ex8, hf⟩ := lt_e hf
        refine lv_iinc (v := x8) (lv' := [(2, .int x8), (0, .ref (ad 77)), (1, .int p0)]) hx hb dX2_markWhatMayBeLeft_14 hl (k := 2) rfl (by rw [ex8]; rfl) (by decide) rfl (fun ls hl => ?_)
        refine lv_goto (tgt := 2) hx hb dX2_markWhatMayBeLeft_17 (by decide) ?_
        exact ih x8 f6 C H locs ls hP hS hag h19 h20 h77 h78 (lv_sub hl [1, 2, 0] rfl) hf
  refine key2 _ (fun x3 f4 C H locs ls hP hS hag h19 h20 h77 h78 hl hf => ?_) FU 0 h_few C H locs ls hP hS hag h19 h20 h77 h78 (lv_sub hl [1, 2, 0] rfl) hf
  refine lv_aload_n hx hb dX2_markWhatMayBeLeft_20 rfl (lv_at hl 0 rfl) ?_
  refine r_get (own := RX2) (T := TX2) (n := 6) (ci := 2) (v := .ref (ad 78)) hx hb hts nX2 hown hK hP (by decide) h77 rfl 2 (by decide) k0 rfl dX2_markWhatMayBeLeft_21 ?_
  refine lv_iload_n hx hb dX2_markWhatMayBeLeft_24 rfl (lv_at hl 1 rfl) ?_
  refine lv_ldc (own := RX2) hx hb hown k2 dX2_markWhatMayBeLeft_25 ?_
  obtain ⟨i10, f9, ef9, hf⟩ := wi_e hf
  refine r_iast hx hb hK hI hAd hP hS (by decide) h78 i10 dX2_markWhatMayBeLeft_27 ef9 (fun C H locs hP hS he hn => ?_)
  have hag : ∀ i : Nat, i ≠ 78 → C i = C0 i := fun i h => (he i (by omega)).trans (hag i h)
  have h19 := (he 19 (by decide)).trans h19
  have h20 := (he 20 (by decide)).trans h20
  have h77 := (he 77 (by decide)).trans h77
  have h78 : C 78 = aI g hn1 f9 := hn
  refine lv_iload_n hx hb dX2_markWhatMayBeLeft_28 rfl (lv_at hl 1 rfl) ?_
  refine lv_istore_n (lv' := [(2, .int p0), (0, .ref (ad 77)), (1, .int p0)]) hx hb dX2_markWhatMayBeLeft_29 rfl hl (by decide) rfl (fun ls hl => ?_)
  have key30 : ∀ (ko : Int32 → (Nat → Int32) → Option ((Nat → Int32))), (∀ (x13 : Int32) (f14 : Nat → Int32) (C : Nat → va_E) (H : Heap) (locs : List Loc) (ls : Array Slot), va_P D vwCl (wd 109 ad C) H → va_S (Aw 109 ad s.heap.size) s.heap H locs → (∀ i : Nat, i ≠ 78 → C i = C0 i) → C 19 = .inr (9, [.ref (ad 5), .ref (ad 20), .int w_src]) → C 20 = aI g 12 w_over → C 77 = .inr (2, [.ref (ad 5), .ref (ad 19), .ref (ad 78), .ref (ad 79), .ref (ad 80), .int h_solved]) → C 78 = aI g hn1 f14 → lv_has ls 3 [(0, .ref (ad 77)), (1, .int p0), (2, .int x13)] → ko x13 f14 = some rr → W p l e (headSpec wsX2_markWhatMayBeLeft rmX2_markWhatMayBeLeft).room s m args below meth c H locs 0 0 QQ (F0 m 55 ls [])) → ∀ (n : Nat) (x11 : Int32) (f12 : Nat → Int32) (C : Nat → va_E) (H : Heap) (locs : List Loc) (ls : Array Slot), va_P D vwCl (wd 109 ad C) H → va_S (Aw 109 ad s.heap.size) s.heap H locs → (∀ i : Nat, i ≠ 78 → C i = C0 i) → C 19 = .inr (9, [.ref (ad 5), .ref (ad 20), .int w_src]) → C 20 = aI g 12 w_over → C 77 = .inr (2, [.ref (ad 5), .ref (ad 19), .ref (ad 78), .ref (ad 79), .ref (ad 80), .int h_solved]) → C 78 = aI g hn1 f12 → lv_has ls 3 [(0, .ref (ad 77)), (1, .int p0), (2, .int x11)] → LX2_markWhatMayBeLeft_30 w_over hn1 ko n x11 f12 = some rr → W p l e (headSpec wsX2_markWhatMayBeLeft rmX2_markWhatMayBeLeft).room s m args below meth c H locs 0 0 QQ (F0 m 30 ls []) := by
    intro ko hko n
    induction n with
    | zero =>
      intro x11 f12 C H locs ls hP hS hag h19 h20 h77 h78 hl hf
      rw [LX2_markWhatMayBeLeft_30_z] at hf
      cases hf
    | succ n ih =>
      intro x11 f12 C H locs ls hP hS hag h19 h20 h77 h78 hl hf
      rw [LX2_markWhatMayBeLeft_30_s] at hf
      refine lv_iload_n hx hb dX2_markWhatMayBeLeft_30 rfl (lv_at hl 2 rfl) ?_
      refine lv_if_le (tgt := 55) hx hb dX2_markWhatMayBeLeft_31 (by decide) (fun c15 => ?_) (fun c15 => ?_)
      · have hf := it_e c15 hf
        exact hko x11 f12 C H locs ls hP hS hag h19 h20 h77 h78 (lv_sub hl [0, 1, 2] rfl) hf
      · have hf := ie_e c15 hf
        refine lv_aload_n hx hb dX2_markWhatMayBeLeft_34 rfl (lv_at hl 0 rfl) ?_
        refine r_get (own := RX2) (T := TX2) (n := 6) (ci := 2) (v := .ref (ad 78)) hx hb hts nX2 hown hK hP (by decide) h77 rfl 2 (by decide) k0 rfl dX2_markWhatMayBeLeft_35 ?_
        refine lv_iload_n hx hb dX2_markWhatMayBeLeft_38 rfl (lv_at hl 2 rfl) ?_
        obtain ⟨i17, x16, ex16, hf⟩ := ri_e hf
        refine r_iald hx hb hK hP (by decide) h78 i17 dX2_markWhatMayBeLeft_39 ex16 ?_
        refine lv_iconst (v := (-1)) hx hb dX2_markWhatMayBeLeft_40 (by decide) ?_
        obtain ⟨q18, htq18, hf⟩ := bd_e hf
        have jnq18 : ∀ (C : Nat → va_E) (H : Heap) (locs : List Loc) (ls : Array Slot), va_P D vwCl (wd 109 ad C) H → va_S (Aw 109 ad s.heap.size) s.heap H locs → (∀ i : Nat, i ≠ 78 → C i = C0 i) → C 19 = .inr (9, [.ref (ad 5), .ref (ad 20), .int w_src]) → C 20 = aI g 12 w_over → C 77 = .inr (2, [.ref (ad 5), .ref (ad 19), .ref (ad 78), .ref (ad 79), .ref (ad 80), .int h_solved]) → C 78 = aI g hn1 q18 → lv_has ls 3 [(0, .ref (ad 77)), (1, .int p0), (2, .int x11)] → W p l e (headSpec wsX2_markWhatMayBeLeft rmX2_markWhatMayBeLeft).room s m args below meth c H locs 0 0 QQ (F0 m 49 ls []) := by
          intro C H locs ls hP hS hag h19 h20 h77 h78 hl
          obtain ⟨x19, ex19, hf⟩ := lt_e hf
          refine lv_iinc (v := x19) (lv' := [(2, .int x19), (0, .ref (ad 77)), (1, .int p0)]) hx hb dX2_markWhatMayBeLeft_49 hl (k := 2) rfl (by rw [ex19]; rfl) (by decide) rfl (fun ls hl => ?_)
          refine lv_goto (tgt := 30) hx hb dX2_markWhatMayBeLeft_52 (by decide) ?_
          exact ih x19 q18 C H locs ls hP hS hag h19 h20 h77 h78 (lv_sub hl [1, 2, 0] rfl) hf
        clear hf
        have hf := htq18
        refine lv_icmp_eq (tgt := 49) hx hb dX2_markWhatMayBeLeft_41 (by decide) (fun c20 => ?_) (fun c20 => ?_)
        · have hf := it_e c20 hf
          obtain rfl := Option.some.inj hf
          exact jnq18 C H locs ls hP hS hag h19 h20 h77 h78 (lv_sub hl [0, 1, 2] rfl)
        · have hf := ie_e c20 hf
          refine lv_aload_n hx hb dX2_markWhatMayBeLeft_44 rfl (lv_at hl 0 rfl) ?_
          refine lv_iload_n hx hb dX2_markWhatMayBeLeft_45 rfl (lv_at hl 2 rfl) ?_
          obtain ⟨q21, hq21, hf⟩ := bd_e hf
          refine k_vW (va_runV (C := RX2) (As := [.int x11]) (rest := []) ⟨hx, hb, hml, hown, hts⟩ (c_X2_markPartsOf (l := l) (sz := H.size) (p0 := x11) hI h19 h20 h77 h78 hq21) (cwV 1 hts gX2_markWhatMayBeLeft_X2_markPartsOf rfl rfl rfl (by decide +kernel) ⟨Nat.le_of_ble_eq_true rfl, Nat.le_of_ble_eq_true rfl⟩) (preV_of hK hP (by decide) h77 rfl) rfl rfl hl.1 rfl (lv_room (Nat.le_of_ble_eq_true rfl)) dX2_markWhatMayBeLeft_46 ⟨Nat.le_refl _, Nat.le_refl _⟩) hA hAd hS (fun C H locs hP hS hpo => ?_)
          obtain ⟨he, h78⟩ := hpo
          have hag : ∀ i : Nat, i ≠ 78 → C i = C0 i := fun i h => (he i (by omega)).trans (hag i h)
          have h19 := (he 19 (by decide)).trans h19
          have h20 := (he 20 (by decide)).trans h20
          have h77 := (he 77 (by decide)).trans h77
          obtain rfl := Option.some.inj hf
          exact jnq18 C H locs ls hP hS hag h19 h20 h77 h78 (lv_sub hl [0, 1, 2] rfl)
  refine key30 _ (fun x13 f14 C H locs ls hP hS hag h19 h20 h77 h78 hl hf => ?_) FU p0 f9 C H locs ls hP hS hag h19 h20 h77 h78 (lv_sub hl [1, 2, 0] rfl) hf
  obtain rfl := Option.some.inj hf
  rw [← hQ]
  exact e_vW hx hb hr hP hS ⟨hag, h78⟩ hlocks dX2_markWhatMayBeLeft_55

def f_J6_bitCount_0f7a4 (p0 : Int32) : Option (Int32) :=
  lt (((p0).toUInt32 >>> ((1).toUInt32 &&& Int32.toUInt32 31)).toInt32 : Int32) fun x1 =>
  lt ((p0 - (x1 &&& 1431655765)) : Int32) fun x2 =>
  lt (((x2).toUInt32 >>> ((2).toUInt32 &&& Int32.toUInt32 31)).toInt32 : Int32) fun x3 =>
  lt (((x2 &&& 858993459) + (x3 &&& 858993459)) : Int32) fun x4 =>
  lt (((x4).toUInt32 >>> ((4).toUInt32 &&& Int32.toUInt32 31)).toInt32 : Int32) fun x5 =>
  lt (((x4 + x5) &&& 252645135) : Int32) fun x6 =>
  lt (((x6).toUInt32 >>> ((8).toUInt32 &&& Int32.toUInt32 31)).toInt32 : Int32) fun x7 =>
  lt ((x6 + x7) : Int32) fun x8 =>
  lt (((x8).toUInt32 >>> ((16).toUInt32 &&& Int32.toUInt32 31)).toInt32 : Int32) fun x9 =>
  lt ((x8 + x9) : Int32) fun x10 =>
  some ((x10 &&& 63))
abbrev rmJ6_bitCount_0f7a4 : Room := { frames := 0, cells := 0, slots := 0, locals := 0 }
set_option maxHeartbeats 4000000 in
set_option maxRecDepth 100000 in
theorem c_J6_bitCount_0f7a4 {l : Launch} {sz : Nat}  {p0 : Int32} {rr : Int32} (hf : f_J6_bitCount_0f7a4 p0 = some rr) : Met l yJ6_bitCount_0f7a4 wsJ6_bitCount_0f7a4 rmJ6_bitCount_0f7a4 (PcS sz [.int p0]) (QiR sz tP rr) 0 0 (An sz) := by
  refine Met.ofW (cc := cJ6_bitCount_0f7a4) (maxL := 1) (ret := (some .int)) (by decide) rfl ?_
  intro p e s m args below meth c s₁ B hml hv
  obtain ⟨hav, hsz⟩ := hv
  subst hsz
  have hx := B.exec
  have hb := B.bytes
  have hr := B.returns
  have hts := atoms_spec (ws := wsJ6_bitCount_0f7a4) B.pre
  have hown : s.vm.findClass RJ6 = some m.cls := findClass_of_methodNamed B.named
  have hlocks := B.notSynchronized
  generalize hQ : MQ below (QiR s.heap.size tP rr) args s 0 0 (An s.heap.size) = QQ
  have hS : va_S (An s.heap.size) s.heap s.heap [] := va_S.rf
  have hA : ∀ q, s.heap.size ≤ q → (An s.heap.size) q := fun q h => h
  have k0 := hts (.constant RJ6 265 (1431655765)) (List.mem_of_getElem? (i := 1) rfl)
  have k1 := hts (.constant RJ6 266 (858993459)) (List.mem_of_getElem? (i := 2) rfl)
  have k2 := hts (.constant RJ6 267 (252645135)) (List.mem_of_getElem? (i := 3) rfl)
  have hE := lg_entry_eq m [.int p0] 1
  rw [← hav] at hE
  rw [hE]
  have hl := lv_entry [.int p0] (n := 1) (Nat.le_of_ble_eq_true rfl)
  generalize (lg_sl [.int p0] ++ List.replicate (1 - (lg_sl [.int p0]).length) Slot.unset).toArray = ls at hl ⊢
  have hl : lv_has ls 1 [(0, .int p0)] := hl
  clear hE
  unfold f_J6_bitCount_0f7a4 at hf
  suffices hgo : ∀ (H : Heap) (locs : List Loc), va_S (An s.heap.size) s.heap H locs → W p l e (headSpec wsJ6_bitCount_0f7a4 rmJ6_bitCount_0f7a4).room s m args below meth c H locs 0 0 QQ (F0 m 0 ls []) from hgo s.heap [] hS
  clear hS
  intro H locs hS
  refine lv_iload_n hx hb dJ6_bitCount_0f7a4_0 rfl (lv_at hl 0 rfl) ?_
  refine lv_iload_n hx hb dJ6_bitCount_0f7a4_1 rfl (lv_at hl 0 rfl) ?_
  refine lv_iconst (v := 1) hx hb dJ6_bitCount_0f7a4_2 (by decide) ?_
  refine lv_iushr hx hb dJ6_bitCount_0f7a4_3 rfl ?_
  obtain ⟨x1, ex1, hf⟩ := lt_e hf
  refine tp_i ex1 ?_
  refine lv_ldcw (own := RJ6) hx hb hown k0 dJ6_bitCount_0f7a4_4 ?_
  refine lv_iand hx hb dJ6_bitCount_0f7a4_7 ?_
  refine lv_isub hx hb dJ6_bitCount_0f7a4_8 ?_
  obtain ⟨x2, ex2, hf⟩ := lt_e hf
  refine tp_i ex2 ?_
  refine lv_istore_n (lv' := [(0, .int x2)]) hx hb dJ6_bitCount_0f7a4_9 rfl hl (by decide) rfl (fun ls hl => ?_)
  refine lv_iload_n hx hb dJ6_bitCount_0f7a4_10 rfl (lv_at hl 0 rfl) ?_
  refine lv_ldcw (own := RJ6) hx hb hown k1 dJ6_bitCount_0f7a4_11 ?_
  refine lv_iand hx hb dJ6_bitCount_0f7a4_14 ?_
  refine lv_iload_n hx hb dJ6_bitCount_0f7a4_15 rfl (lv_at hl 0 rfl) ?_
  refine lv_iconst (v := 2) hx hb dJ6_bitCount_0f7a4_16 (by decide) ?_
  refine lv_iushr hx hb dJ6_bitCount_0f7a4_17 rfl ?_
  obtain ⟨x3, ex3, hf⟩ := lt_e hf
  refine tp_i ex3 ?_
  refine lv_ldcw (own := RJ6) hx hb hown k1 dJ6_bitCount_0f7a4_18 ?_
  refine lv_iand hx hb dJ6_bitCount_0f7a4_21 ?_
  refine lv_iadd hx hb dJ6_bitCount_0f7a4_22 ?_
  obtain ⟨x4, ex4, hf⟩ := lt_e hf
  refine tp_i ex4 ?_
  refine lv_istore_n (lv' := [(0, .int x4)]) hx hb dJ6_bitCount_0f7a4_23 rfl hl (by decide) rfl (fun ls hl => ?_)
  refine lv_iload_n hx hb dJ6_bitCount_0f7a4_24 rfl (lv_at hl 0 rfl) ?_
  refine lv_iload_n hx hb dJ6_bitCount_0f7a4_25 rfl (lv_at hl 0 rfl) ?_
  refine lv_iconst (v := 4) hx hb dJ6_bitCount_0f7a4_26 (by decide) ?_
  refine lv_iushr hx hb dJ6_bitCount_0f7a4_27 rfl ?_
  obtain ⟨x5, ex5, hf⟩ := lt_e hf
  refine tp_i ex5 ?_
  refine lv_iadd hx hb dJ6_bitCount_0f7a4_28 ?_
  refine lv_ldcw (own := RJ6) hx hb hown k2 dJ6_bitCount_0f7a4_29 ?_
  refine lv_iand hx hb dJ6_bitCount_0f7a4_32 ?_
  obtain ⟨x6, ex6, hf⟩ := lt_e hf
  refine tp_i ex6 ?_
  refine lv_istore_n (lv' := [(0, .int x6)]) hx hb dJ6_bitCount_0f7a4_33 rfl hl (by decide) rfl (fun ls hl => ?_)
  refine lv_iload_n hx hb dJ6_bitCount_0f7a4_34 rfl (lv_at hl 0 rfl) ?_
  refine lv_iload_n hx hb dJ6_bitCount_0f7a4_35 rfl (lv_at hl 0 rfl) ?_
  refine lv_bipush (v := 8) hx hb dJ6_bitCount_0f7a4_36 (by decide) ?_
  refine lv_iushr hx hb dJ6_bitCount_0f7a4_38 rfl ?_
  obtain ⟨x7, ex7, hf⟩ := lt_e hf
  refine tp_i ex7 ?_
  refine lv_iadd hx hb dJ6_bitCount_0f7a4_39 ?_
  obtain ⟨x8, ex8, hf⟩ := lt_e hf
  refine tp_i ex8 ?_
  refine lv_istore_n (lv' := [(0, .int x8)]) hx hb dJ6_bitCount_0f7a4_40 rfl hl (by decide) rfl (fun ls hl => ?_)
  refine lv_iload_n hx hb dJ6_bitCount_0f7a4_41 rfl (lv_at hl 0 rfl) ?_
  refine lv_iload_n hx hb dJ6_bitCount_0f7a4_42 rfl (lv_at hl 0 rfl) ?_
  refine lv_bipush (v := 16) hx hb dJ6_bitCount_0f7a4_43 (by decide) ?_
  refine lv_iushr hx hb dJ6_bitCount_0f7a4_45 rfl ?_
  obtain ⟨x9, ex9, hf⟩ := lt_e hf
  refine tp_i ex9 ?_
  refine lv_iadd hx hb dJ6_bitCount_0f7a4_46 ?_
  obtain ⟨x10, ex10, hf⟩ := lt_e hf
  refine tp_i ex10 ?_
  refine lv_istore_n (lv' := [(0, .int x10)]) hx hb dJ6_bitCount_0f7a4_47 rfl hl (by decide) rfl (fun ls hl => ?_)
  refine lv_iload_n hx hb dJ6_bitCount_0f7a4_48 rfl (lv_at hl 0 rfl) ?_
  refine lv_bipush (v := 63) hx hb dJ6_bitCount_0f7a4_49 (by decide) ?_
  refine lv_iand hx hb dJ6_bitCount_0f7a4_51 ?_
  obtain rfl := Option.some.inj hf
  rw [← hQ]
  exact e_iR hx hb hr rfl (tP_i _) hS hlocks dJ6_bitCount_0f7a4_52

def f_X2_lidsBy (p0 : Int32) (p1 : Int32) (w_over : Nat → Int32) (h_few : Nat → Int32) (hn1 : Nat) : Option (Int32) :=
  ri w_over 12 (p0) fun x1 =>
  lt ((p1 &&& x1) : Int32) fun x3 =>
  ri h_few hn1 (x3) fun x4 =>
  ri h_few hn1 ((p1 ^^^ x3)) fun x6 =>
  lt ((if x4 < x6 then x6 else x4) : Int32) fun x8 =>
  some ((1 + x8))
abbrev rmX2_lidsBy : Room := { frames := 1, cells := 0, slots := 0, locals := 21 }
set_option maxHeartbeats 4000000 in
set_option maxRecDepth 100000 in
theorem c_X2_lidsBy {l : Launch} {D : va_G} {g : Nat → ClassId} {ad : Nat → Nat} {C : Nat → va_E} {sz : Nat} {w_src : Int32} {w_over : Nat → Int32} {h_solved : Int32} {hn1 : Nat} {h_few : Nat → Int32} {p0 : Int32} {p1 : Int32} {rr : Int32} (h19 : C 19 = .inr (9, [.ref (ad 5), .ref (ad 20), .int w_src])) (h20 : C 20 = aI g 12 w_over) (h77 : C 77 = .inr (2, [.ref (ad 5), .ref (ad 19), .ref (ad 78), .ref (ad 79), .ref (ad 80), .int h_solved])) (h78 : C 78 = aI g hn1 h_few) (hf : f_X2_lidsBy p0 p1 w_over h_few hn1 = some rr) : Met l yX2_lidsBy wsX2_lidsBy rmX2_lidsBy (PcW D g 109 ad C sz [.ref (ad 77), .int p0, .int p1]) (QiR sz tP rr) 0 0 (An sz) := by
  refine Met.ofW (cc := cX2_lidsBy) (maxL := 4) (ret := (some .int)) (by decide) rfl ?_
  intro p e s m args below meth c s₁ B hml hv
  obtain ⟨hav, hsz, hK, hP⟩ := hv
  subst hsz
  have hx := B.exec
  have hb := B.bytes
  have hr := B.returns
  have hts := atoms_spec (ws := wsX2_lidsBy) B.pre
  have hown : s.vm.findClass RX2 = some m.cls := findClass_of_methodNamed B.named
  have hlocks := B.notSynchronized
  generalize hQ : MQ below (QiR s.heap.size tP rr) args s 0 0 (An s.heap.size) = QQ
  have hS : va_S (An s.heap.size) s.heap s.heap [] := va_S.rf
  have hA : ∀ q, s.heap.size ≤ q → (An s.heap.size) q := fun q h => h
  have k0 := hts (.fieldLink RX2 25 "UpDrain$Hunt" "ways" "LUpDrain$Ways;") (List.mem_of_getElem? (i := 1) rfl)
  have nX2 : ∀ w ∈ u_ws RX2 TX2 6, w ∈ wsX2_lidsBy := fun _ h => List.mem_cons_of_mem _ (List.mem_append_left _ (List.mem_append_right _ h))
  have k2 := nf_49 (A := args) hK
  have nX9 : ∀ w ∈ u_ws RX9 TX9 3, w ∈ wsX2_lidsBy := fun _ h => List.mem_cons_of_mem _ (List.mem_append_right _ h)
  have k4 := hts (.fieldLink RX2 9 "UpDrain$Hunt" "fewestLids" "[I") (List.mem_of_getElem? (i := 2) rfl)
  have k5 := hts (.methodLink RX2 96 Lib.Math.max.name) (List.mem_of_getElem? (i := 3) rfl)
  have k6 := hts (.static Lib.Math.max.name) (List.mem_of_getElem? (i := 4) rfl)
  have k7 := hts (.initialized "java/lang/Math") (List.mem_of_getElem? (i := 5) rfl)
  have k8 := hts (.code Lib.Math.max.name Lib.Math.max.code 2 (some .int)) (List.mem_of_getElem? (i := 6) rfl)
  have hE := lg_entry_eq m [.ref (ad 77), .int p0, .int p1] 4
  rw [← hav] at hE
  rw [hE]
  have hl := lv_entry [.ref (ad 77), .int p0, .int p1] (n := 4) (Nat.le_of_ble_eq_true rfl)
  generalize (lg_sl [.ref (ad 77), .int p0, .int p1] ++ List.replicate (4 - (lg_sl [.ref (ad 77), .int p0, .int p1]).length) Slot.unset).toArray = ls at hl ⊢
  have hl : lv_has ls 4 [(0, .ref (ad 77)), (1, .int p0), (2, .int p1)] := hl
  clear hE
  unfold f_X2_lidsBy at hf
  suffices hgo : ∀ (H : Heap) (locs : List Loc), va_P D vwCl (wd 109 ad C) H → va_S (An s.heap.size) s.heap H locs → W p l e (headSpec wsX2_lidsBy rmX2_lidsBy).room s m args below meth c H locs 0 0 QQ (F0 m 0 ls []) from hgo s.heap [] hP hS
  clear hS hP
  intro H locs hP hS
  refine lv_iload_n hx hb dX2_lidsBy_0 rfl (lv_at hl 2 rfl) ?_
  refine lv_aload_n hx hb dX2_lidsBy_1 rfl (lv_at hl 0 rfl) ?_
  refine r_get (own := RX2) (T := TX2) (n := 6) (ci := 2) (v := .ref (ad 19)) hx hb hts nX2 hown hK hP (by decide) h77 rfl 1 (by decide) k0 rfl dX2_lidsBy_2 ?_
  refine r_getN (own := RX2) (T := TX9) (n := 3) (ci := 9) (v := .ref (ad 20)) hx hb hts nX9 hown hK hP (by decide) h19 rfl 1 (by decide) k2 rfl dX2_lidsBy_5 ?_
  refine lv_iload_n hx hb dX2_lidsBy_8 rfl (lv_at hl 1 rfl) ?_
  obtain ⟨i2, x1, ex1, hf⟩ := ri_e hf
  refine r_iald hx hb hK hP (by decide) h20 i2 dX2_lidsBy_9 ex1 ?_
  refine lv_iand hx hb dX2_lidsBy_10 ?_
  obtain ⟨x3, ex3, hf⟩ := lt_e hf
  refine tp_i ex3 ?_
  refine lv_istore_n (lv' := [(3, .int x3), (0, .ref (ad 77)), (1, .int p0), (2, .int p1)]) hx hb dX2_lidsBy_11 rfl hl (by decide) rfl (fun ls hl => ?_)
  refine lv_iconst (v := 1) hx hb dX2_lidsBy_12 (by decide) ?_
  refine lv_aload_n hx hb dX2_lidsBy_13 rfl (lv_at hl 1 rfl) ?_
  refine r_get (own := RX2) (T := TX2) (n := 6) (ci := 2) (v := .ref (ad 78)) hx hb hts nX2 hown hK hP (by decide) h77 rfl 2 (by decide) k4 rfl dX2_lidsBy_14 ?_
  refine lv_iload_n hx hb dX2_lidsBy_17 rfl (lv_at hl 0 rfl) ?_
  obtain ⟨i5, x4, ex4, hf⟩ := ri_e hf
  refine r_iald hx hb hK hP (by decide) h78 i5 dX2_lidsBy_18 ex4 ?_
  refine lv_aload_n hx hb dX2_lidsBy_19 rfl (lv_at hl 1 rfl) ?_
  refine r_get (own := RX2) (T := TX2) (n := 6) (ci := 2) (v := .ref (ad 78)) hx hb hts nX2 hown hK hP (by decide) h77 rfl 2 (by decide) k4 rfl dX2_lidsBy_20 ?_
  refine lv_iload_n hx hb dX2_lidsBy_23 rfl (lv_at hl 3 rfl) ?_
  refine lv_iload_n hx hb dX2_lidsBy_24 rfl (lv_at hl 0 rfl) ?_
  refine lv_ixor hx hb dX2_lidsBy_25 ?_
  obtain ⟨i7, x6, ex6, hf⟩ := ri_e hf
  refine r_iald hx hb hK hP (by decide) h78 i7 dX2_lidsBy_26 ex6 ?_
  refine va_mmax (own := RX2) hx hb (hml.trans hl.1.symm) hown k5 k6 k7 k8 (Nat.le_of_ble_eq_true rfl) (Nat.le_of_ble_eq_true rfl) (Nat.le_refl _) (Nat.le_refl _) dX2_lidsBy_27 ?_
  obtain ⟨x8, ex8, hf⟩ := lt_e hf
  refine tp_i ex8 ?_
  refine lv_iadd hx hb dX2_lidsBy_30 ?_
  obtain rfl := Option.some.inj hf
  rw [← hQ]
  exact e_iR hx hb hr rfl (tP_i _) hS hlocks dX2_lidsBy_31

def f_X2_minutesBy (p0 : Int32) (p1 : Int32) (t_lift : Int32) (w_over : Nat → Int32) (h_min : Nat → Int32) (hn3 : Nat) : Option (Int32) :=
  ri w_over 12 (p0) fun x1 =>
  lt ((p1 &&& x1) : Int32) fun x3 =>
  ri h_min hn3 (((x3 * 12) + p0)) fun x4 =>
  ri h_min hn3 ((((p1 ^^^ x3) * 12) + p0)) fun x6 =>
  lt ((if x4 < x6 then x6 else x4) : Int32) fun x8 =>
  some ((t_lift + x8))
abbrev rmX2_minutesBy : Room := { frames := 1, cells := 0, slots := 0, locals := 21 }
set_option maxHeartbeats 4000000 in
set_option maxRecDepth 100000 in
theorem c_X2_minutesBy {l : Launch} {D : va_G} {g : Nat → ClassId} {ad : Nat → Nat} {C : Nat → va_E} {sz : Nat} {t_there : Int32} {t_lift : Int32} {t_none : Int32} {w_src : Int32} {w_over : Nat → Int32} {h_solved : Int32} {hn3 : Nat} {h_min : Nat → Int32} {p0 : Int32} {p1 : Int32} {rr : Int32} (h5 : C 5 = .inr (7, [.ref (ad 6), .ref (ad 7), .ref (ad 8), .ref (ad 9), .ref (ad 10), .ref (ad 11), .ref (ad 12), .ref (ad 13), .ref (ad 14), .ref (ad 15), .ref (ad 16), .ref (ad 17), .ref (ad 18), .int t_there, .int t_lift, .int t_none])) (h19 : C 19 = .inr (9, [.ref (ad 5), .ref (ad 20), .int w_src])) (h20 : C 20 = aI g 12 w_over) (h77 : C 77 = .inr (2, [.ref (ad 5), .ref (ad 19), .ref (ad 78), .ref (ad 79), .ref (ad 80), .int h_solved])) (h80 : C 80 = aI g hn3 h_min) (hf : f_X2_minutesBy p0 p1 t_lift w_over h_min hn3 = some rr) : Met l yX2_minutesBy wsX2_minutesBy rmX2_minutesBy (PcW D g 109 ad C sz [.ref (ad 77), .int p0, .int p1]) (QiR sz tP rr) 0 0 (An sz) := by
  refine Met.ofW (cc := cX2_minutesBy) (maxL := 6) (ret := (some .int)) (by decide) rfl ?_
  intro p e s m args below meth c s₁ B hml hv
  obtain ⟨hav, hsz, hK, hP⟩ := hv
  subst hsz
  have hx := B.exec
  have hb := B.bytes
  have hr := B.returns
  have hts := atoms_spec (ws := wsX2_minutesBy) B.pre
  have hown : s.vm.findClass RX2 = some m.cls := findClass_of_methodNamed B.named
  have hlocks := B.notSynchronized
  generalize hQ : MQ below (QiR s.heap.size tP rr) args s 0 0 (An s.heap.size) = QQ
  have hS : va_S (An s.heap.size) s.heap s.heap [] := va_S.rf
  have hA : ∀ q, s.heap.size ≤ q → (An s.heap.size) q := fun q h => h
  have k0 := hts (.fieldLink RX2 25 "UpDrain$Hunt" "ways" "LUpDrain$Ways;") (List.mem_of_getElem? (i := 1) rfl)
  have nX2 : ∀ w ∈ u_ws RX2 TX2 6, w ∈ wsX2_minutesBy := fun _ h => List.mem_cons_of_mem _ (List.mem_append_left _ (List.mem_append_left _ (List.mem_append_right _ h)))
  have k2 := nf_49 (A := args) hK
  have nX9 : ∀ w ∈ u_ws RX9 TX9 3, w ∈ wsX2_minutesBy := fun _ h => List.mem_cons_of_mem _ (List.mem_append_left _ (List.mem_append_right _ h))
  have k4 := hts (.fieldLink RX2 18 "UpDrain$Hunt" "leastMinutes" "[I") (List.mem_of_getElem? (i := 2) rfl)
  have k5 := hts (.fieldLink RX2 21 "UpDrain$Hunt" "plan" "LUpDrain$Town;") (List.mem_of_getElem? (i := 3) rfl)
  have k6 := nf_42 (A := args) hK
  have nX7 : ∀ w ∈ u_ws RX7 TX7 16, w ∈ wsX2_minutesBy := fun _ h => List.mem_cons_of_mem _ (List.mem_append_right _ h)
  have k8 := hts (.methodLink RX2 96 Lib.Math.max.name) (List.mem_of_getElem? (i := 4) rfl)
  have k9 := hts (.static Lib.Math.max.name) (List.mem_of_getElem? (i := 5) rfl)
  have k10 := hts (.initialized "java/lang/Math") (List.mem_of_getElem? (i := 6) rfl)
  have k11 := hts (.code Lib.Math.max.name Lib.Math.max.code 2 (some .int)) (List.mem_of_getElem? (i := 7) rfl)
  have hE := lg_entry_eq m [.ref (ad 77), .int p0, .int p1] 6
  rw [← hav] at hE
  rw [hE]
  have hl := lv_entry [.ref (ad 77), .int p0, .int p1] (n := 6) (Nat.le_of_ble_eq_true rfl)
  generalize (lg_sl [.ref (ad 77), .int p0, .int p1] ++ List.replicate (6 - (lg_sl [.ref (ad 77), .int p0, .int p1]).length) Slot.unset).toArray = ls at hl ⊢
  have hl : lv_has ls 6 [(0, .ref (ad 77)), (1, .int p0), (2, .int p1)] := hl
  clear hE
  unfold f_X2_minutesBy at hf
  suffices hgo : ∀ (H : Heap) (locs : List Loc), va_P D vwCl (wd 109 ad C) H → va_S (An s.heap.size) s.heap H locs → W p l e (headSpec wsX2_minutesBy rmX2_minutesBy).room s m args below meth c H locs 0 0 QQ (F0 m 0 ls []) from hgo s.heap [] hP hS
  clear hS hP
  intro H locs hP hS
  refine lv_iload_n hx hb dX2_minutesBy_0 rfl (lv_at hl 2 rfl) ?_
  refine lv_aload_n hx hb dX2_minutesBy_1 rfl (lv_at hl 0 rfl) ?_
  refine r_get (own := RX2) (T := TX2) (n := 6) (ci := 2) (v := .ref (ad 19)) hx hb hts nX2 hown hK hP (by decide) h77 rfl 1 (by decide) k0 rfl dX2_minutesBy_2 ?_
  refine r_getN (own := RX2) (T := TX9) (n := 3) (ci := 9) (v := .ref (ad 20)) hx hb hts nX9 hown hK hP (by decide) h19 rfl 1 (by decide) k2 rfl dX2_minutesBy_5 ?_
  refine lv_iload_n hx hb dX2_minutesBy_8 rfl (lv_at hl 1 rfl) ?_
  obtain ⟨i2, x1, ex1, hf⟩ := ri_e hf
  refine r_iald hx hb hK hP (by decide) h20 i2 dX2_minutesBy_9 ex1 ?_
  refine lv_iand hx hb dX2_minutesBy_10 ?_
  obtain ⟨x3, ex3, hf⟩ := lt_e hf
  refine tp_i ex3 ?_
  refine lv_istore_n (lv' := [(3, .int x3), (0, .ref (ad 77)), (1, .int p0), (2, .int p1)]) hx hb dX2_minutesBy_11 rfl hl (by decide) rfl (fun ls hl => ?_)
  refine lv_aload_n hx hb dX2_minutesBy_12 rfl (lv_at hl 1 rfl) ?_
  refine r_get (own := RX2) (T := TX2) (n := 6) (ci := 2) (v := .ref (ad 80)) hx hb hts nX2 hown hK hP (by decide) h77 rfl 4 (by decide) k4 rfl dX2_minutesBy_13 ?_
  refine lv_iload_n hx hb dX2_minutesBy_16 rfl (lv_at hl 0 rfl) ?_
  refine lv_bipush (v := 12) hx hb dX2_minutesBy_17 (by decide) ?_
  refine lv_imul hx hb dX2_minutesBy_19 ?_
  refine lv_iload_n hx hb dX2_minutesBy_20 rfl (lv_at hl 2 rfl) ?_
  refine lv_iadd hx hb dX2_minutesBy_21 ?_
  obtain ⟨i5, x4, ex4, hf⟩ := ri_e hf
  refine r_iald hx hb hK hP (by decide) h80 i5 dX2_minutesBy_22 ex4 ?_
  refine lv_istore (lv' := [(4, .int x4), (3, .int x3), (0, .ref (ad 77)), (1, .int p0), (2, .int p1)]) hx hb dX2_minutesBy_23 hl (by decide) rfl (fun ls hl => ?_)
  refine lv_aload_n hx hb dX2_minutesBy_25 rfl (lv_at hl 2 rfl) ?_
  refine r_get (own := RX2) (T := TX2) (n := 6) (ci := 2) (v := .ref (ad 80)) hx hb hts nX2 hown hK hP (by decide) h77 rfl 4 (by decide) k4 rfl dX2_minutesBy_26 ?_
  refine lv_iload_n hx hb dX2_minutesBy_29 rfl (lv_at hl 4 rfl) ?_
  refine lv_iload_n hx hb dX2_minutesBy_30 rfl (lv_at hl 1 rfl) ?_
  refine lv_ixor hx hb dX2_minutesBy_31 ?_
  refine lv_bipush (v := 12) hx hb dX2_minutesBy_32 (by decide) ?_
  refine lv_imul hx hb dX2_minutesBy_34 ?_
  refine lv_iload_n hx hb dX2_minutesBy_35 rfl (lv_at hl 3 rfl) ?_
  refine lv_iadd hx hb dX2_minutesBy_36 ?_
  obtain ⟨i7, x6, ex6, hf⟩ := ri_e hf
  refine r_iald hx hb hK hP (by decide) h80 i7 dX2_minutesBy_37 ex6 ?_
  refine lv_istore (lv' := [(5, .int x6), (4, .int x4), (3, .int x3), (0, .ref (ad 77)), (1, .int p0), (2, .int p1)]) hx hb dX2_minutesBy_38 hl (by decide) rfl (fun ls hl => ?_)
  refine lv_aload_n hx hb dX2_minutesBy_40 rfl (lv_at hl 3 rfl) ?_
  refine r_get (own := RX2) (T := TX2) (n := 6) (ci := 2) (v := .ref (ad 5)) hx hb hts nX2 hown hK hP (by decide) h77 rfl 0 (by decide) k5 rfl dX2_minutesBy_41 ?_
  refine r_getN (own := RX2) (T := TX7) (n := 16) (ci := 7) (v := .int t_lift) hx hb hts nX7 hown hK hP (by decide) h5 rfl 14 (by decide) k6 rfl dX2_minutesBy_44 ?_
  refine lv_iload hx hb dX2_minutesBy_47 (lv_at hl 1 rfl) ?_
  refine lv_iload hx hb dX2_minutesBy_49 (lv_at hl 0 rfl) ?_
  refine va_mmax (own := RX2) hx hb (hml.trans hl.1.symm) hown k8 k9 k10 k11 (Nat.le_of_ble_eq_true rfl) (Nat.le_of_ble_eq_true rfl) (Nat.le_refl _) (Nat.le_refl _) dX2_minutesBy_51 ?_
  obtain ⟨x8, ex8, hf⟩ := lt_e hf
  refine tp_i ex8 ?_
  refine lv_iadd hx hb dX2_minutesBy_54 ?_
  obtain rfl := Option.some.inj hf
  rw [← hQ]
  exact e_iR hx hb hr rfl (tP_i _) hS hlocks dX2_minutesBy_55

def f_X2_shorten (p0 : Int32) (p1 : Int32) (p2 : Int32) (p3 : Int32) (h_min : Nat → Int32) (hn3 : Nat) : Option ((Nat → Int32)) :=
  if p1 < 0 then
    some (h_min)
  else
    if p2 < 0 then
      some (h_min)
    else
      ri h_min hn3 ((p0 + p1)) fun x3 =>
      ri h_min hn3 ((p0 + p2)) fun x5 =>
      lt ((if (x5 + p3) < x3 then (x5 + p3) else x3) : Int32) fun x7 =>
      wi h_min hn3 ((p0 + p1)) (x7) fun f8 =>
      some (f8)
abbrev rmX2_shorten : Room := { frames := 1, cells := 0, slots := 0, locals := 21 }
set_option maxHeartbeats 4000000 in
set_option maxRecDepth 100000 in
theorem c_X2_shorten {l : Launch} {D : va_G} {g : Nat → ClassId} {ad : Nat → Nat} {C : Nat → va_E} {sz : Nat} {h_solved : Int32} {hn3 : Nat} {h_min : Nat → Int32} {p0 : Int32} {p1 : Int32} {p2 : Int32} {p3 : Int32} {rr : (Nat → Int32)} (hI : Inj 109 ad) (h77 : C 77 = .inr (2, [.ref (ad 5), .ref (ad 19), .ref (ad 78), .ref (ad 79), .ref (ad 80), .int h_solved])) (h80 : C 80 = aI g hn3 h_min) (hf : f_X2_shorten p0 p1 p2 p3 h_min hn3 = some rr) : Met l yX2_shorten wsX2_shorten rmX2_shorten (PcW D g 109 ad C sz [.ref (ad 77), .int p0, .int p1, .int p2, .int p3]) (QvW D 109 ad sz (fun C' => (∀ i : Nat, i ≠ 80 → C' i = C i) ∧ (C' 80 = aI g hn3 rr))) 0 0 (Aw 109 ad sz) := by
  refine Met.ofW (cc := cX2_shorten) (maxL := 5) (ret := none) (by decide) rfl ?_
  intro p e s m args below meth c s₁ B hml hv
  obtain ⟨hav, hsz, hK, hP⟩ := hv
  subst hsz
  have hx := B.exec
  have hb := B.bytes
  have hr := B.returns
  have hts := atoms_spec (ws := wsX2_shorten) B.pre
  have hown : s.vm.findClass RX2 = some m.cls := findClass_of_methodNamed B.named
  have hlocks := B.notSynchronized
  generalize hQ : MQ below (QvW D 109 ad s.heap.size (fun C' => (∀ i : Nat, i ≠ 80 → C' i = C i) ∧ (C' 80 = aI g hn3 rr))) args s 0 0 (Aw 109 ad s.heap.size) = QQ
  have hS : va_S (Aw 109 ad s.heap.size) s.heap s.heap [] := va_S.rf
  have hA : ∀ q, s.heap.size ≤ q → (Aw 109 ad s.heap.size) q := fun q h => Or.inr h
  have hAd : ∀ j : Nat, j < 109 → (Aw 109 ad s.heap.size) (ad j) := fun j h => Or.inl ⟨j, h, rfl⟩
  obtain ⟨C0, hC0⟩ : ∃ C0 : Nat → va_E, C0 = C := ⟨_, rfl⟩
  have hag : ∀ i : Nat, i ≠ 80 → C i = C0 i := fun i _ => by rw [hC0]
  rw [← hC0] at hQ
  have k0 := hts (.fieldLink RX2 18 "UpDrain$Hunt" "leastMinutes" "[I") (List.mem_of_getElem? (i := 1) rfl)
  have nX2 : ∀ w ∈ u_ws RX2 TX2 6, w ∈ wsX2_shorten := fun _ h => List.mem_cons_of_mem _ (List.mem_append_right _ h)
  have k2 := hts (.methodLink RX2 70 Lib.Math.min.name) (List.mem_of_getElem? (i := 2) rfl)
  have k3 := hts (.static Lib.Math.min.name) (List.mem_of_getElem? (i := 3) rfl)
  have k4 := hts (.initialized "java/lang/Math") (List.mem_of_getElem? (i := 4) rfl)
  have k5 := hts (.code Lib.Math.min.name Lib.Math.min.code 2 (some .int)) (List.mem_of_getElem? (i := 5) rfl)
  have hE := lg_entry_eq m [.ref (ad 77), .int p0, .int p1, .int p2, .int p3] 5
  rw [← hav] at hE
  rw [hE]
  have hl := lv_entry [.ref (ad 77), .int p0, .int p1, .int p2, .int p3] (n := 5) (Nat.le_of_ble_eq_true rfl)
  generalize (lg_sl [.ref (ad 77), .int p0, .int p1, .int p2, .int p3] ++ List.replicate (5 - (lg_sl [.ref (ad 77), .int p0, .int p1, .int p2, .int p3]).length) Slot.unset).toArray = ls at hl ⊢
  have hl : lv_has ls 5 [(0, .ref (ad 77)), (1, .int p0), (2, .int p1), (3, .int p2), (4, .int p3)] := hl
  clear hE
  unfold f_X2_shorten at hf
  suffices hgo : ∀ (H : Heap) (locs : List Loc), va_P D vwCl (wd 109 ad C) H → va_S (Aw 109 ad s.heap.size) s.heap H locs → W p l e (headSpec wsX2_shorten rmX2_shorten).room s m args below meth c H locs 0 0 QQ (F0 m 0 ls []) from hgo s.heap [] hP hS
  clear hS hP
  intro H locs hP hS
  refine lv_iload_n hx hb dX2_shorten_0 rfl (lv_at hl 2 rfl) ?_
  refine lv_if_lt (tgt := 38) hx hb dX2_shorten_1 (by decide) (fun c1 => ?_) (fun c1 => ?_)
  · have hf := it_e c1 hf
    obtain rfl := Option.some.inj hf
    rw [← hQ]
    exact e_vW hx hb hr hP hS ⟨hag, h80⟩ hlocks dX2_shorten_38
  · have hf := ie_e c1 hf
    refine lv_iload_n hx hb dX2_shorten_4 rfl (lv_at hl 3 rfl) ?_
    refine lv_if_lt (tgt := 38) hx hb dX2_shorten_5 (by decide) (fun c2 => ?_) (fun c2 => ?_)
    · have hf := it_e c2 hf
      obtain rfl := Option.some.inj hf
      rw [← hQ]
      exact e_vW hx hb hr hP hS ⟨hag, h80⟩ hlocks dX2_shorten_38
    · have hf := ie_e c2 hf
      refine lv_aload_n hx hb dX2_shorten_8 rfl (lv_at hl 0 rfl) ?_
      refine r_get (own := RX2) (T := TX2) (n := 6) (ci := 2) (v := .ref (ad 80)) hx hb hts nX2 hown hK hP (by decide) h77 rfl 4 (by decide) k0 rfl dX2_shorten_9 ?_
      refine lv_iload_n hx hb dX2_shorten_12 rfl (lv_at hl 1 rfl) ?_
      refine lv_iload_n hx hb dX2_shorten_13 rfl (lv_at hl 2 rfl) ?_
      refine lv_iadd hx hb dX2_shorten_14 ?_
      refine lv_aload_n hx hb dX2_shorten_15 rfl (lv_at hl 0 rfl) ?_
      refine r_get (own := RX2) (T := TX2) (n := 6) (ci := 2) (v := .ref (ad 80)) hx hb hts nX2 hown hK hP (by decide) h77 rfl 4 (by decide) k0 rfl dX2_shorten_16 ?_
      refine lv_iload_n hx hb dX2_shorten_19 rfl (lv_at hl 1 rfl) ?_
      refine lv_iload_n hx hb dX2_shorten_20 rfl (lv_at hl 2 rfl) ?_
      refine lv_iadd hx hb dX2_shorten_21 ?_
      obtain ⟨i4, x3, ex3, hf⟩ := ri_e hf
      refine r_iald hx hb hK hP (by decide) h80 i4 dX2_shorten_22 ex3 ?_
      refine lv_aload_n hx hb dX2_shorten_23 rfl (lv_at hl 0 rfl) ?_
      refine r_get (own := RX2) (T := TX2) (n := 6) (ci := 2) (v := .ref (ad 80)) hx hb hts nX2 hown hK hP (by decide) h77 rfl 4 (by decide) k0 rfl dX2_shorten_24 ?_
      refine lv_iload_n hx hb dX2_shorten_27 rfl (lv_at hl 1 rfl) ?_
      refine lv_iload_n hx hb dX2_shorten_28 rfl (lv_at hl 3 rfl) ?_
      refine lv_iadd hx hb dX2_shorten_29 ?_
      obtain ⟨i6, x5, ex5, hf⟩ := ri_e hf
      refine r_iald hx hb hK hP (by decide) h80 i6 dX2_shorten_30 ex5 ?_
      refine lv_iload hx hb dX2_shorten_31 (lv_at hl 4 rfl) ?_
      refine lv_iadd hx hb dX2_shorten_33 ?_
      refine va_mmin (own := RX2) hx hb (hml.trans hl.1.symm) hown k2 k3 k4 k5 (Nat.le_of_ble_eq_true rfl) (Nat.le_of_ble_eq_true rfl) (Nat.le_refl _) (Nat.le_refl _) dX2_shorten_34 ?_
      obtain ⟨x7, ex7, hf⟩ := lt_e hf
      refine tp_i ex7 ?_
      obtain ⟨i9, f8, ef8, hf⟩ := wi_e hf
      refine r_iast hx hb hK hI hAd hP hS (by decide) h80 i9 dX2_shorten_37 ef8 (fun C H locs hP hS he hn => ?_)
      have hag : ∀ i : Nat, i ≠ 80 → C i = C0 i := fun i h => (he i (by omega)).trans (hag i h)
      have h77 := (he 77 (by decide)).trans h77
      have h80 : C 80 = aI g hn3 f8 := hn
      obtain rfl := Option.some.inj hf
      rw [← hQ]
      exact e_vW hx hb hr hP hS ⟨hag, h80⟩ hlocks dX2_shorten_38

def LX2_walkToLids_3 (p0 : Int32) (t_down : Nat → Int32) (t_pac : Nat → Int32) (hn3 : Nat) (ko : Int32 → (Nat → Int32) → Option ((Nat → Int32))) : Nat → Int32 → (Nat → Int32) → Option ((Nat → Int32))
  | 0, _, _ => none
  | n + 1, x1, f2 =>
    if x1 ≤ 0 then
      ko x1 f2
    else
      ri t_down 12 (x1) fun x6 =>
      ri t_pac 12 (x1) fun x8 =>
      (f_X2_shorten p0 x6 x1 x8 f2 hn3).bind fun q10 =>
      lt (x1 + (-1) : Int32) fun x11 =>
      LX2_walkToLids_3 p0 t_down t_pac hn3 ko n x11 q10
theorem LX2_walkToLids_3_z (p0 : Int32) (t_down : Nat → Int32) (t_pac : Nat → Int32) (hn3 : Nat) (ko : Int32 → (Nat → Int32) → Option ((Nat → Int32))) (x1 : Int32) (f2 : Nat → Int32) : LX2_walkToLids_3 p0 t_down t_pac hn3 ko 0 x1 f2 = none := rfl
theorem LX2_walkToLids_3_s (p0 : Int32) (t_down : Nat → Int32) (t_pac : Nat → Int32) (hn3 : Nat) (ko : Int32 → (Nat → Int32) → Option ((Nat → Int32))) (n : Nat) (x1 : Int32) (f2 : Nat → Int32) : LX2_walkToLids_3 p0 t_down t_pac hn3 ko (n + 1) x1 f2 =
    if x1 ≤ 0 then
      ko x1 f2
    else
      ri t_down 12 (x1) fun x6 =>
      ri t_pac 12 (x1) fun x8 =>
      (f_X2_shorten p0 x6 x1 x8 f2 hn3).bind fun q10 =>
      lt (x1 + (-1) : Int32) fun x11 =>
      LX2_walkToLids_3 p0 t_down t_pac hn3 ko n x11 q10 := rfl
def LX2_walkToLids_39 (p0 : Int32) (t_down : Nat → Int32) (t_pac : Nat → Int32) (hn3 : Nat) (ko : Int32 → (Nat → Int32) → Option ((Nat → Int32))) : Nat → Int32 → (Nat → Int32) → Option ((Nat → Int32))
  | 0, _, _ => none
  | n + 1, x12, f13 =>
    if 12 ≤ x12 then
      ko x12 f13
    else
      ri t_down 12 (x12) fun x17 =>
      ri t_pac 12 (x12) fun x19 =>
      (f_X2_shorten p0 x12 x17 x19 f13 hn3).bind fun q21 =>
      lt (x12 + 1 : Int32) fun x22 =>
      LX2_walkToLids_39 p0 t_down t_pac hn3 ko n x22 q21
theorem LX2_walkToLids_39_z (p0 : Int32) (t_down : Nat → Int32) (t_pac : Nat → Int32) (hn3 : Nat) (ko : Int32 → (Nat → Int32) → Option ((Nat → Int32))) (x12 : Int32) (f13 : Nat → Int32) : LX2_walkToLids_39 p0 t_down t_pac hn3 ko 0 x12 f13 = none := rfl
theorem LX2_walkToLids_39_s (p0 : Int32) (t_down : Nat → Int32) (t_pac : Nat → Int32) (hn3 : Nat) (ko : Int32 → (Nat → Int32) → Option ((Nat → Int32))) (n : Nat) (x12 : Int32) (f13 : Nat → Int32) : LX2_walkToLids_39 p0 t_down t_pac hn3 ko (n + 1) x12 f13 =
    if 12 ≤ x12 then
      ko x12 f13
    else
      ri t_down 12 (x12) fun x17 =>
      ri t_pac 12 (x12) fun x19 =>
      (f_X2_shorten p0 x12 x17 x19 f13 hn3).bind fun q21 =>
      lt (x12 + 1 : Int32) fun x22 =>
      LX2_walkToLids_39 p0 t_down t_pac hn3 ko n x22 q21 := rfl
def f_X2_walkToLids (p0 : Int32) (t_down : Nat → Int32) (t_pac : Nat → Int32) (h_min : Nat → Int32) (hn3 : Nat) : Option ((Nat → Int32)) :=
  LX2_walkToLids_3 p0 t_down t_pac hn3 (fun x3 f4 =>
    LX2_walkToLids_39 p0 t_down t_pac hn3 (fun x14 f15 =>
      some (f15)) FU 1 f4) FU 11 h_min
abbrev rmX2_walkToLids : Room := { frames := 2, cells := 0, slots := 0, locals := 45 }
set_option maxHeartbeats 4000000 in
set_option maxRecDepth 100000 in
theorem c_X2_walkToLids {l : Launch} {D : va_G} {g : Nat → ClassId} {ad : Nat → Nat} {C : Nat → va_E} {sz : Nat} {t_there : Int32} {t_lift : Int32} {t_none : Int32} {t_down : Nat → Int32} {t_pac : Nat → Int32} {h_solved : Int32} {hn3 : Nat} {h_min : Nat → Int32} {p0 : Int32} {rr : (Nat → Int32)} (hI : Inj 109 ad) (h5 : C 5 = .inr (7, [.ref (ad 6), .ref (ad 7), .ref (ad 8), .ref (ad 9), .ref (ad 10), .ref (ad 11), .ref (ad 12), .ref (ad 13), .ref (ad 14), .ref (ad 15), .ref (ad 16), .ref (ad 17), .ref (ad 18), .int t_there, .int t_lift, .int t_none])) (h6 : C 6 = aI g 12 t_down) (h8 : C 8 = aI g 12 t_pac) (h77 : C 77 = .inr (2, [.ref (ad 5), .ref (ad 19), .ref (ad 78), .ref (ad 79), .ref (ad 80), .int h_solved])) (h80 : C 80 = aI g hn3 h_min) (hf : f_X2_walkToLids p0 t_down t_pac h_min hn3 = some rr) : Met l yX2_walkToLids wsX2_walkToLids rmX2_walkToLids (PcW D g 109 ad C sz [.ref (ad 77), .int p0]) (QvW D 109 ad sz (fun C' => (∀ i : Nat, i ≠ 80 → C' i = C i) ∧ (C' 80 = aI g hn3 rr))) 0 0 (Aw 109 ad sz) := by
  refine Met.ofW (cc := cX2_walkToLids) (maxL := 3) (ret := none) (by decide) rfl ?_
  intro p e s m args below meth c s₁ B hml hv
  obtain ⟨hav, hsz, hK, hP⟩ := hv
  subst hsz
  have hx := B.exec
  have hb := B.bytes
  have hr := B.returns
  have hts := atoms_spec (ws := wsX2_walkToLids) B.pre
  have hown : s.vm.findClass RX2 = some m.cls := findClass_of_methodNamed B.named
  have hlocks := B.notSynchronized
  generalize hQ : MQ below (QvW D 109 ad s.heap.size (fun C' => (∀ i : Nat, i ≠ 80 → C' i = C i) ∧ (C' 80 = aI g hn3 rr))) args s 0 0 (Aw 109 ad s.heap.size) = QQ
  have hS : va_S (Aw 109 ad s.heap.size) s.heap s.heap [] := va_S.rf
  have hA : ∀ q, s.heap.size ≤ q → (Aw 109 ad s.heap.size) q := fun q h => Or.inr h
  have hAd : ∀ j : Nat, j < 109 → (Aw 109 ad s.heap.size) (ad j) := fun j h => Or.inl ⟨j, h, rfl⟩
  obtain ⟨C0, hC0⟩ : ∃ C0 : Nat → va_E, C0 = C := ⟨_, rfl⟩
  have hag : ∀ i : Nat, i ≠ 80 → C i = C0 i := fun i _ => by rw [hC0]
  rw [← hC0] at hQ
  have k0 := hts (.fieldLink RX2 21 "UpDrain$Hunt" "plan" "LUpDrain$Town;") (List.mem_of_getElem? (i := 1) rfl)
  have nX2 : ∀ w ∈ u_ws RX2 TX2 6, w ∈ wsX2_walkToLids := fun _ h => List.mem_cons_of_mem _ (List.mem_append_left _ (List.mem_append_right _ h))
  have k2 := nf_7 (A := args) hK
  have nX7 : ∀ w ∈ u_ws RX7 TX7 16, w ∈ wsX2_walkToLids := fun _ h => List.mem_cons_of_mem _ (List.mem_append_right _ h)
  have k4 := nf_12 (A := args) hK
  have hE := lg_entry_eq m [.ref (ad 77), .int p0] 3
  rw [← hav] at hE
  rw [hE]
  have hl := lv_entry [.ref (ad 77), .int p0] (n := 3) (Nat.le_of_ble_eq_true rfl)
  generalize (lg_sl [.ref (ad 77), .int p0] ++ List.replicate (3 - (lg_sl [.ref (ad 77), .int p0]).length) Slot.unset).toArray = ls at hl ⊢
  have hl : lv_has ls 3 [(0, .ref (ad 77)), (1, .int p0)] := hl
  clear hE
  unfold f_X2_walkToLids at hf
  suffices hgo : ∀ (H : Heap) (locs : List Loc), va_P D vwCl (wd 109 ad C) H → va_S (Aw 109 ad s.heap.size) s.heap H locs → W p l e (headSpec wsX2_walkToLids rmX2_walkToLids).room s m args below meth c H locs 0 0 QQ (F0 m 0 ls []) from hgo s.heap [] hP hS
  clear hS hP
  intro H locs hP hS
  refine lv_bipush (v := 11) hx hb dX2_walkToLids_0 (by decide) ?_
  refine lv_istore_n (lv' := [(2, .int 11), (0, .ref (ad 77)), (1, .int p0)]) hx hb dX2_walkToLids_2 rfl hl (by decide) rfl (fun ls hl => ?_)
  have key3 : ∀ (ko : Int32 → (Nat → Int32) → Option ((Nat → Int32))), (∀ (x3 : Int32) (f4 : Nat → Int32) (C : Nat → va_E) (H : Heap) (locs : List Loc) (ls : Array Slot), va_P D vwCl (wd 109 ad C) H → va_S (Aw 109 ad s.heap.size) s.heap H locs → (∀ i : Nat, i ≠ 80 → C i = C0 i) → C 5 = .inr (7, [.ref (ad 6), .ref (ad 7), .ref (ad 8), .ref (ad 9), .ref (ad 10), .ref (ad 11), .ref (ad 12), .ref (ad 13), .ref (ad 14), .ref (ad 15), .ref (ad 16), .ref (ad 17), .ref (ad 18), .int t_there, .int t_lift, .int t_none]) → C 6 = aI g 12 t_down → C 8 = aI g 12 t_pac → C 77 = .inr (2, [.ref (ad 5), .ref (ad 19), .ref (ad 78), .ref (ad 79), .ref (ad 80), .int h_solved]) → C 80 = aI g hn3 f4 → lv_has ls 3 [(0, .ref (ad 77)), (1, .int p0), (2, .int x3)] → ko x3 f4 = some rr → W p l e (headSpec wsX2_walkToLids rmX2_walkToLids).room s m args below meth c H locs 0 0 QQ (F0 m 37 ls [])) → ∀ (n : Nat) (x1 : Int32) (f2 : Nat → Int32) (C : Nat → va_E) (H : Heap) (locs : List Loc) (ls : Array Slot), va_P D vwCl (wd 109 ad C) H → va_S (Aw 109 ad s.heap.size) s.heap H locs → (∀ i : Nat, i ≠ 80 → C i = C0 i) → C 5 = .inr (7, [.ref (ad 6), .ref (ad 7), .ref (ad 8), .ref (ad 9), .ref (ad 10), .ref (ad 11), .ref (ad 12), .ref (ad 13), .ref (ad 14), .ref (ad 15), .ref (ad 16), .ref (ad 17), .ref (ad 18), .int t_there, .int t_lift, .int t_none]) → C 6 = aI g 12 t_down → C 8 = aI g 12 t_pac → C 77 = .inr (2, [.ref (ad 5), .ref (ad 19), .ref (ad 78), .ref (ad 79), .ref (ad 80), .int h_solved]) → C 80 = aI g hn3 f2 → lv_has ls 3 [(0, .ref (ad 77)), (1, .int p0), (2, .int x1)] → LX2_walkToLids_3 p0 t_down t_pac hn3 ko n x1 f2 = some rr → W p l e (headSpec wsX2_walkToLids rmX2_walkToLids).room s m args below meth c H locs 0 0 QQ (F0 m 3 ls []) := by
    intro ko hko n
    induction n with
    | zero =>
      intro x1 f2 C H locs ls hP hS hag h5 h6 h8 h77 h80 hl hf
      rw [LX2_walkToLids_3_z] at hf
      cases hf
    | succ n ih =>
      intro x1 f2 C H locs ls hP hS hag h5 h6 h8 h77 h80 hl hf
      rw [LX2_walkToLids_3_s] at hf
      refine lv_iload_n hx hb dX2_walkToLids_3 rfl (lv_at hl 2 rfl) ?_
      refine lv_if_le (tgt := 37) hx hb dX2_walkToLids_4 (by decide) (fun c5 => ?_) (fun c5 => ?_)
      · have hf := it_e c5 hf
        exact hko x1 f2 C H locs ls hP hS hag h5 h6 h8 h77 h80 (lv_sub hl [0, 1, 2] rfl) hf
      · have hf := ie_e c5 hf
        refine lv_aload_n hx hb dX2_walkToLids_7 rfl (lv_at hl 0 rfl) ?_
        refine lv_iload_n hx hb dX2_walkToLids_8 rfl (lv_at hl 1 rfl) ?_
        refine lv_aload_n hx hb dX2_walkToLids_9 rfl (lv_at hl 0 rfl) ?_
        refine r_get (own := RX2) (T := TX2) (n := 6) (ci := 2) (v := .ref (ad 5)) hx hb hts nX2 hown hK hP (by decide) h77 rfl 0 (by decide) k0 rfl dX2_walkToLids_10 ?_
        refine r_getN (own := RX2) (T := TX7) (n := 16) (ci := 7) (v := .ref (ad 6)) hx hb hts nX7 hown hK hP (by decide) h5 rfl 0 (by decide) k2 rfl dX2_walkToLids_13 ?_
        refine lv_iload_n hx hb dX2_walkToLids_16 rfl (lv_at hl 2 rfl) ?_
        obtain ⟨i7, x6, ex6, hf⟩ := ri_e hf
        refine r_iald hx hb hK hP (by decide) h6 i7 dX2_walkToLids_17 ex6 ?_
        refine lv_iload_n hx hb dX2_walkToLids_18 rfl (lv_at hl 2 rfl) ?_
        refine lv_aload_n hx hb dX2_walkToLids_19 rfl (lv_at hl 0 rfl) ?_
        refine r_get (own := RX2) (T := TX2) (n := 6) (ci := 2) (v := .ref (ad 5)) hx hb hts nX2 hown hK hP (by decide) h77 rfl 0 (by decide) k0 rfl dX2_walkToLids_20 ?_
        refine r_getN (own := RX2) (T := TX7) (n := 16) (ci := 7) (v := .ref (ad 8)) hx hb hts nX7 hown hK hP (by decide) h5 rfl 2 (by decide) k4 rfl dX2_walkToLids_23 ?_
        refine lv_iload_n hx hb dX2_walkToLids_26 rfl (lv_at hl 2 rfl) ?_
        obtain ⟨i9, x8, ex8, hf⟩ := ri_e hf
        refine r_iald hx hb hK hP (by decide) h8 i9 dX2_walkToLids_27 ex8 ?_
        obtain ⟨q10, hq10, hf⟩ := bd_e hf
        refine k_vW (va_runV (C := RX2) (As := [.int p0, .int x6, .int x1, .int x8]) (rest := []) ⟨hx, hb, hml, hown, hts⟩ (c_X2_shorten (l := l) (sz := H.size) (p0 := p0) (p1 := x6) (p2 := x1) (p3 := x8) hI h77 h80 hq10) (cwV 4 hts gX2_walkToLids_X2_shorten rfl rfl rfl (by decide +kernel) ⟨Nat.le_of_ble_eq_true rfl, Nat.le_of_ble_eq_true rfl⟩) (preV_of hK hP (by decide) h77 rfl) rfl rfl hl.1 rfl (lv_room (Nat.le_of_ble_eq_true rfl)) dX2_walkToLids_28 ⟨Nat.le_refl _, Nat.le_refl _⟩) hA hAd hS (fun C H locs hP hS hpo => ?_)
        obtain ⟨he, h80⟩ := hpo
        have hag : ∀ i : Nat, i ≠ 80 → C i = C0 i := fun i h => (he i (by omega)).trans (hag i h)
        have h5 := (he 5 (by decide)).trans h5
        have h6 := (he 6 (by decide)).trans h6
        have h8 := (he 8 (by decide)).trans h8
        have h77 := (he 77 (by decide)).trans h77
        obtain ⟨x11, ex11, hf⟩ := lt_e hf
        refine lv_iinc (v := x11) (lv' := [(2, .int x11), (0, .ref (ad 77)), (1, .int p0)]) hx hb dX2_walkToLids_31 hl (k := 2) rfl (by rw [ex11]; rfl) (by decide) rfl (fun ls hl => ?_)
        refine lv_goto (tgt := 3) hx hb dX2_walkToLids_34 (by decide) ?_
        exact ih x11 q10 C H locs ls hP hS hag h5 h6 h8 h77 h80 (lv_sub hl [1, 2, 0] rfl) hf
  refine key3 _ (fun x3 f4 C H locs ls hP hS hag h5 h6 h8 h77 h80 hl hf => ?_) FU 11 h_min C H locs ls hP hS hag h5 h6 h8 h77 h80 (lv_sub hl [1, 2, 0] rfl) hf
  refine lv_iconst (v := 1) hx hb dX2_walkToLids_37 (by decide) ?_
  refine lv_istore_n (lv' := [(2, .int 1), (0, .ref (ad 77)), (1, .int p0)]) hx hb dX2_walkToLids_38 rfl hl (by decide) rfl (fun ls hl => ?_)
  have key39 : ∀ (ko : Int32 → (Nat → Int32) → Option ((Nat → Int32))), (∀ (x14 : Int32) (f15 : Nat → Int32) (C : Nat → va_E) (H : Heap) (locs : List Loc) (ls : Array Slot), va_P D vwCl (wd 109 ad C) H → va_S (Aw 109 ad s.heap.size) s.heap H locs → (∀ i : Nat, i ≠ 80 → C i = C0 i) → C 5 = .inr (7, [.ref (ad 6), .ref (ad 7), .ref (ad 8), .ref (ad 9), .ref (ad 10), .ref (ad 11), .ref (ad 12), .ref (ad 13), .ref (ad 14), .ref (ad 15), .ref (ad 16), .ref (ad 17), .ref (ad 18), .int t_there, .int t_lift, .int t_none]) → C 6 = aI g 12 t_down → C 8 = aI g 12 t_pac → C 77 = .inr (2, [.ref (ad 5), .ref (ad 19), .ref (ad 78), .ref (ad 79), .ref (ad 80), .int h_solved]) → C 80 = aI g hn3 f15 → lv_has ls 3 [(0, .ref (ad 77)), (1, .int p0), (2, .int x14)] → ko x14 f15 = some rr → W p l e (headSpec wsX2_walkToLids rmX2_walkToLids).room s m args below meth c H locs 0 0 QQ (F0 m 75 ls [])) → ∀ (n : Nat) (x12 : Int32) (f13 : Nat → Int32) (C : Nat → va_E) (H : Heap) (locs : List Loc) (ls : Array Slot), va_P D vwCl (wd 109 ad C) H → va_S (Aw 109 ad s.heap.size) s.heap H locs → (∀ i : Nat, i ≠ 80 → C i = C0 i) → C 5 = .inr (7, [.ref (ad 6), .ref (ad 7), .ref (ad 8), .ref (ad 9), .ref (ad 10), .ref (ad 11), .ref (ad 12), .ref (ad 13), .ref (ad 14), .ref (ad 15), .ref (ad 16), .ref (ad 17), .ref (ad 18), .int t_there, .int t_lift, .int t_none]) → C 6 = aI g 12 t_down → C 8 = aI g 12 t_pac → C 77 = .inr (2, [.ref (ad 5), .ref (ad 19), .ref (ad 78), .ref (ad 79), .ref (ad 80), .int h_solved]) → C 80 = aI g hn3 f13 → lv_has ls 3 [(0, .ref (ad 77)), (1, .int p0), (2, .int x12)] → LX2_walkToLids_39 p0 t_down t_pac hn3 ko n x12 f13 = some rr → W p l e (headSpec wsX2_walkToLids rmX2_walkToLids).room s m args below meth c H locs 0 0 QQ (F0 m 39 ls []) := by
    intro ko hko n
    induction n with
    | zero =>
      intro x12 f13 C H locs ls hP hS hag h5 h6 h8 h77 h80 hl hf
      rw [LX2_walkToLids_39_z] at hf
      cases hf
    | succ n ih =>
      intro x12 f13 C H locs ls hP hS hag h5 h6 h8 h77 h80 hl hf
      rw [LX2_walkToLids_39_s] at hf
      refine lv_iload_n hx hb dX2_walkToLids_39 rfl (lv_at hl 2 rfl) ?_
      refine lv_bipush (v := 12) hx hb dX2_walkToLids_40 (by decide) ?_
      refine lv_icmp_ge (tgt := 75) hx hb dX2_walkToLids_42 (by decide) (fun c16 => ?_) (fun c16 => ?_)
      · have hf := it_e c16 hf
        exact hko x12 f13 C H locs ls hP hS hag h5 h6 h8 h77 h80 (lv_sub hl [0, 1, 2] rfl) hf
      · have hf := ie_e c16 hf
        refine lv_aload_n hx hb dX2_walkToLids_45 rfl (lv_at hl 0 rfl) ?_
        refine lv_iload_n hx hb dX2_walkToLids_46 rfl (lv_at hl 1 rfl) ?_
        refine lv_iload_n hx hb dX2_walkToLids_47 rfl (lv_at hl 2 rfl) ?_
        refine lv_aload_n hx hb dX2_walkToLids_48 rfl (lv_at hl 0 rfl) ?_
        refine r_get (own := RX2) (T := TX2) (n := 6) (ci := 2) (v := .ref (ad 5)) hx hb hts nX2 hown hK hP (by decide) h77 rfl 0 (by decide) k0 rfl dX2_walkToLids_49 ?_
        refine r_getN (own := RX2) (T := TX7) (n := 16) (ci := 7) (v := .ref (ad 6)) hx hb hts nX7 hown hK hP (by decide) h5 rfl 0 (by decide) k2 rfl dX2_walkToLids_52 ?_
        refine lv_iload_n hx hb dX2_walkToLids_55 rfl (lv_at hl 2 rfl) ?_
        obtain ⟨i18, x17, ex17, hf⟩ := ri_e hf
        refine r_iald hx hb hK hP (by decide) h6 i18 dX2_walkToLids_56 ex17 ?_
        refine lv_aload_n hx hb dX2_walkToLids_57 rfl (lv_at hl 0 rfl) ?_
        refine r_get (own := RX2) (T := TX2) (n := 6) (ci := 2) (v := .ref (ad 5)) hx hb hts nX2 hown hK hP (by decide) h77 rfl 0 (by decide) k0 rfl dX2_walkToLids_58 ?_
        refine r_getN (own := RX2) (T := TX7) (n := 16) (ci := 7) (v := .ref (ad 8)) hx hb hts nX7 hown hK hP (by decide) h5 rfl 2 (by decide) k4 rfl dX2_walkToLids_61 ?_
        refine lv_iload_n hx hb dX2_walkToLids_64 rfl (lv_at hl 2 rfl) ?_
        obtain ⟨i20, x19, ex19, hf⟩ := ri_e hf
        refine r_iald hx hb hK hP (by decide) h8 i20 dX2_walkToLids_65 ex19 ?_
        obtain ⟨q21, hq21, hf⟩ := bd_e hf
        refine k_vW (va_runV (C := RX2) (As := [.int p0, .int x12, .int x17, .int x19]) (rest := []) ⟨hx, hb, hml, hown, hts⟩ (c_X2_shorten (l := l) (sz := H.size) (p0 := p0) (p1 := x12) (p2 := x17) (p3 := x19) hI h77 h80 hq21) (cwV 4 hts gX2_walkToLids_X2_shorten rfl rfl rfl (by decide +kernel) ⟨Nat.le_of_ble_eq_true rfl, Nat.le_of_ble_eq_true rfl⟩) (preV_of hK hP (by decide) h77 rfl) rfl rfl hl.1 rfl (lv_room (Nat.le_of_ble_eq_true rfl)) dX2_walkToLids_66 ⟨Nat.le_refl _, Nat.le_refl _⟩) hA hAd hS (fun C H locs hP hS hpo => ?_)
        obtain ⟨he, h80⟩ := hpo
        have hag : ∀ i : Nat, i ≠ 80 → C i = C0 i := fun i h => (he i (by omega)).trans (hag i h)
        have h5 := (he 5 (by decide)).trans h5
        have h6 := (he 6 (by decide)).trans h6
        have h8 := (he 8 (by decide)).trans h8
        have h77 := (he 77 (by decide)).trans h77
        obtain ⟨x22, ex22, hf⟩ := lt_e hf
        refine lv_iinc (v := x22) (lv' := [(2, .int x22), (0, .ref (ad 77)), (1, .int p0)]) hx hb dX2_walkToLids_69 hl (k := 2) rfl (by rw [ex22]; rfl) (by decide) rfl (fun ls hl => ?_)
        refine lv_goto (tgt := 39) hx hb dX2_walkToLids_72 (by decide) ?_
        exact ih x22 q21 C H locs ls hP hS hag h5 h6 h8 h77 h80 (lv_sub hl [1, 2, 0] rfl) hf
  refine key39 _ (fun x14 f15 C H locs ls hP hS hag h5 h6 h8 h77 h80 hl hf => ?_) FU 1 f4 C H locs ls hP hS hag h5 h6 h8 h77 h80 (lv_sub hl [1, 2, 0] rfl) hf
  obtain rfl := Option.some.inj hf
  rw [← hQ]
  exact e_vW hx hb hr hP hS ⟨hag, h80⟩ hlocks dX2_walkToLids_75

def LX2_solveFor_22 (hn3 : Nat) (q2 : Int32) (x3 : Int32) (ko : Int32 → (Nat → Int32) → Option ((Nat → Int32) × (Nat → Int32) × (Nat → Int32))) : Nat → Int32 → (Nat → Int32) → Option ((Nat → Int32) × (Nat → Int32) × (Nat → Int32))
  | 0, _, _ => none
  | n + 1, x4, f5 =>
    if 12 ≤ x4 then
      ko x4 f5
    else
      (if q2 = 0 then
        some (1000000)
      else
        some (0) : Option (Int32)).bind fun q9 =>
      wi f5 hn3 ((x3 + x4)) (q9) fun f10 =>
      lt (x4 + 1 : Int32) fun x12 =>
      LX2_solveFor_22 hn3 q2 x3 ko n x12 f10
theorem LX2_solveFor_22_z (hn3 : Nat) (q2 : Int32) (x3 : Int32) (ko : Int32 → (Nat → Int32) → Option ((Nat → Int32) × (Nat → Int32) × (Nat → Int32))) (x4 : Int32) (f5 : Nat → Int32) : LX2_solveFor_22 hn3 q2 x3 ko 0 x4 f5 = none := rfl
theorem LX2_solveFor_22_s (hn3 : Nat) (q2 : Int32) (x3 : Int32) (ko : Int32 → (Nat → Int32) → Option ((Nat → Int32) × (Nat → Int32) × (Nat → Int32))) (n : Nat) (x4 : Int32) (f5 : Nat → Int32) : LX2_solveFor_22 hn3 q2 x3 ko (n + 1) x4 f5 =
    if 12 ≤ x4 then
      ko x4 f5
    else
      (if q2 = 0 then
        some (1000000)
      else
        some (0) : Option (Int32)).bind fun q9 =>
      wi f5 hn3 ((x3 + x4)) (q9) fun f10 =>
      lt (x4 + 1 : Int32) fun x12 =>
      LX2_solveFor_22 hn3 q2 x3 ko n x12 f10 := rfl
def LX2_solveFor_65 (p0 : Int32) (t_lift : Int32) (w_over : Nat → Int32) (h_few : Nat → Int32) (h_sum : Nat → Int32) (hn1 : Nat) (hn2 : Nat) (hn3 : Nat) (q2 : Int32) (x3 : Int32) (ko : Int32 → Int32 → Int32 → (Nat → Int32) → Option ((Nat → Int32) × (Nat → Int32) × (Nat → Int32))) : Nat → Int32 → Int32 → Int32 → (Nat → Int32) → Option ((Nat → Int32) × (Nat → Int32) × (Nat → Int32))
  | 0, _, _, _, _ => none
  | n + 1, x14, x15, x16, f17 =>
    if 12 ≤ x16 then
      ko x14 x15 x16 f17
    else
      if q2 = 0 then
        (f_X2_splits x16 p0 w_over).bind fun q24 =>
        (if q24 = 0 then
          some (x14, x15, f17)
        else
          ri w_over 12 (x16) fun x28 =>
          lt ((p0 &&& x28) : Int32) fun x30 =>
          (f_X2_lidsBy x16 p0 w_over h_few hn1).bind fun q31 =>
          lt ((if q31 < x14 then q31 else x14) : Int32) fun x32 =>
          ri h_sum hn2 (x30) fun x33 =>
          ri h_sum hn2 ((p0 ^^^ x30)) fun x35 =>
          lt ((if (x33 + x35) < x15 then (x33 + x35) else x15) : Int32) fun x37 =>
          (f_X2_minutesBy x16 p0 t_lift w_over f17 hn3).bind fun q38 =>
          wi f17 hn3 ((x3 + x16)) (q38) fun f39 =>
          some (x32, x37, f39) : Option (Int32 × Int32 × (Nat → Int32))).bind fun q25 =>
        lt (x16 + 1 : Int32) fun x26 =>
        LX2_solveFor_65 p0 t_lift w_over h_few h_sum hn1 hn2 hn3 q2 x3 ko n q25.1 q25.2.1 x26 q25.2.2
      else
        ko x14 x15 x16 f17
theorem LX2_solveFor_65_z (p0 : Int32) (t_lift : Int32) (w_over : Nat → Int32) (h_few : Nat → Int32) (h_sum : Nat → Int32) (hn1 : Nat) (hn2 : Nat) (hn3 : Nat) (q2 : Int32) (x3 : Int32) (ko : Int32 → Int32 → Int32 → (Nat → Int32) → Option ((Nat → Int32) × (Nat → Int32) × (Nat → Int32))) (x14 : Int32) (x15 : Int32) (x16 : Int32) (f17 : Nat → Int32) : LX2_solveFor_65 p0 t_lift w_over h_few h_sum hn1 hn2 hn3 q2 x3 ko 0 x14 x15 x16 f17 = none := rfl
theorem LX2_solveFor_65_s (p0 : Int32) (t_lift : Int32) (w_over : Nat → Int32) (h_few : Nat → Int32) (h_sum : Nat → Int32) (hn1 : Nat) (hn2 : Nat) (hn3 : Nat) (q2 : Int32) (x3 : Int32) (ko : Int32 → Int32 → Int32 → (Nat → Int32) → Option ((Nat → Int32) × (Nat → Int32) × (Nat → Int32))) (n : Nat) (x14 : Int32) (x15 : Int32) (x16 : Int32) (f17 : Nat → Int32) : LX2_solveFor_65 p0 t_lift w_over h_few h_sum hn1 hn2 hn3 q2 x3 ko (n + 1) x14 x15 x16 f17 =
    if 12 ≤ x16 then
      ko x14 x15 x16 f17
    else
      if q2 = 0 then
        (f_X2_splits x16 p0 w_over).bind fun q24 =>
        (if q24 = 0 then
          some (x14, x15, f17)
        else
          ri w_over 12 (x16) fun x28 =>
          lt ((p0 &&& x28) : Int32) fun x30 =>
          (f_X2_lidsBy x16 p0 w_over h_few hn1).bind fun q31 =>
          lt ((if q31 < x14 then q31 else x14) : Int32) fun x32 =>
          ri h_sum hn2 (x30) fun x33 =>
          ri h_sum hn2 ((p0 ^^^ x30)) fun x35 =>
          lt ((if (x33 + x35) < x15 then (x33 + x35) else x15) : Int32) fun x37 =>
          (f_X2_minutesBy x16 p0 t_lift w_over f17 hn3).bind fun q38 =>
          wi f17 hn3 ((x3 + x16)) (q38) fun f39 =>
          some (x32, x37, f39) : Option (Int32 × Int32 × (Nat → Int32))).bind fun q25 =>
        lt (x16 + 1 : Int32) fun x26 =>
        LX2_solveFor_65 p0 t_lift w_over h_few h_sum hn1 hn2 hn3 q2 x3 ko n q25.1 q25.2.1 x26 q25.2.2
      else
        ko x14 x15 x16 f17 := rfl
def f_X2_solveFor (p0 : Int32) (t_down : Nat → Int32) (t_pac : Nat → Int32) (t_lik : Nat → Int32) (t_lift : Int32) (w_over : Nat → Int32) (h_few : Nat → Int32) (h_sum : Nat → Int32) (h_min : Nat → Int32) (hn1 : Nat) (hn2 : Nat) (hn3 : Nat) : Option ((Nat → Int32) × (Nat → Int32) × (Nat → Int32)) :=
  (f_J6_bitCount_0f7a4 p0).bind fun q1 =>
  (if 1 < q1 then
    some (0)
  else
    some (1) : Option (Int32)).bind fun q2 =>
  lt ((p0 * 12) : Int32) fun x3 =>
  LX2_solveFor_22 hn3 q2 x3 (fun x6 f7 =>
    LX2_solveFor_65 p0 t_lift w_over h_few h_sum hn1 hn2 hn3 q2 x3 (fun x18 x19 x20 f21 =>
      (if q2 = 0 then
        some (x18)
      else
        some (0) : Option (Int32)).bind fun q41 =>
      wi h_few hn1 (p0) (q41) fun f42 =>
      (if q2 = 0 then
        (f_X9_likelyOf p0 t_lik).bind fun q50 =>
        some ((x19 + q50))
      else
        some (0) : Option (Int32)).bind fun q44 =>
      wi h_sum hn2 (p0) (q44) fun f45 =>
      if q2 = 0 then
        (f_X2_walkToLids x3 t_down t_pac f21 hn3).bind fun q48 =>
        some (f42, f45, q48)
      else
        some (f42, f45, f21)) FU 1000000 1000000 0 f7) FU 0 h_min
abbrev rmX2_solveFor : Room := { frames := 3, cells := 0, slots := 0, locals := 67 }
set_option maxHeartbeats 4000000 in
set_option maxRecDepth 100000 in
theorem c_X2_solveFor {l : Launch} {D : va_G} {g : Nat → ClassId} {ad : Nat → Nat} {C : Nat → va_E} {sz : Nat} {t_there : Int32} {t_lift : Int32} {t_none : Int32} {t_down : Nat → Int32} {t_pac : Nat → Int32} {t_lik : Nat → Int32} {w_src : Int32} {w_over : Nat → Int32} {h_solved : Int32} {hn1 : Nat} {h_few : Nat → Int32} {hn2 : Nat} {h_sum : Nat → Int32} {hn3 : Nat} {h_min : Nat → Int32} {p0 : Int32} {rr : (Nat → Int32) × (Nat → Int32) × (Nat → Int32)} (hI : Inj 109 ad) (h5 : C 5 = .inr (7, [.ref (ad 6), .ref (ad 7), .ref (ad 8), .ref (ad 9), .ref (ad 10), .ref (ad 11), .ref (ad 12), .ref (ad 13), .ref (ad 14), .ref (ad 15), .ref (ad 16), .ref (ad 17), .ref (ad 18), .int t_there, .int t_lift, .int t_none])) (h6 : C 6 = aI g 12 t_down) (h8 : C 8 = aI g 12 t_pac) (h11 : C 11 = aI g 12 t_lik) (h19 : C 19 = .inr (9, [.ref (ad 5), .ref (ad 20), .int w_src])) (h20 : C 20 = aI g 12 w_over) (h77 : C 77 = .inr (2, [.ref (ad 5), .ref (ad 19), .ref (ad 78), .ref (ad 79), .ref (ad 80), .int h_solved])) (h78 : C 78 = aI g hn1 h_few) (h79 : C 79 = aI g hn2 h_sum) (h80 : C 80 = aI g hn3 h_min) (hf : f_X2_solveFor p0 t_down t_pac t_lik t_lift w_over h_few h_sum h_min hn1 hn2 hn3 = some rr) : Met l yX2_solveFor wsX2_solveFor rmX2_solveFor (PcW D g 109 ad C sz [.ref (ad 77), .int p0]) (QvW D 109 ad sz (fun C' => (∀ i : Nat, i ≠ 78 ∧ i ≠ 79 ∧ i ≠ 80 → C' i = C i) ∧ (C' 78 = aI g hn1 rr.1) ∧ (C' 79 = aI g hn2 rr.2.1) ∧ (C' 80 = aI g hn3 rr.2.2))) 0 0 (Aw 109 ad sz) := by
  refine Met.ofW (cc := cX2_solveFor) (maxL := 8) (ret := none) (by decide) rfl ?_
  intro p e s m args below meth c s₁ B hml hv
  obtain ⟨hav, hsz, hK, hP⟩ := hv
  subst hsz
  have hx := B.exec
  have hb := B.bytes
  have hr := B.returns
  have hts := atoms_spec (ws := wsX2_solveFor) B.pre
  have hown : s.vm.findClass RX2 = some m.cls := findClass_of_methodNamed B.named
  have hlocks := B.notSynchronized
  generalize hQ : MQ below (QvW D 109 ad s.heap.size (fun C' => (∀ i : Nat, i ≠ 78 ∧ i ≠ 79 ∧ i ≠ 80 → C' i = C i) ∧ (C' 78 = aI g hn1 rr.1) ∧ (C' 79 = aI g hn2 rr.2.1) ∧ (C' 80 = aI g hn3 rr.2.2))) args s 0 0 (Aw 109 ad s.heap.size) = QQ
  have hS : va_S (Aw 109 ad s.heap.size) s.heap s.heap [] := va_S.rf
  have hA : ∀ q, s.heap.size ≤ q → (Aw 109 ad s.heap.size) q := fun q h => Or.inr h
  have hAd : ∀ j : Nat, j < 109 → (Aw 109 ad s.heap.size) (ad j) := fun j h => Or.inl ⟨j, h, rfl⟩
  obtain ⟨C0, hC0⟩ : ∃ C0 : Nat → va_E, C0 = C := ⟨_, rfl⟩
  have hag : ∀ i : Nat, i ≠ 78 ∧ i ≠ 79 ∧ i ≠ 80 → C i = C0 i := fun i _ => by rw [hC0]
  rw [← hC0] at hQ
  have k0 := hts (.fieldLink RX2 18 "UpDrain$Hunt" "leastMinutes" "[I") (List.mem_of_getElem? (i := 1) rfl)
  have nX2 : ∀ w ∈ u_ws RX2 TX2 6, w ∈ wsX2_solveFor := fun _ h => List.mem_cons_of_mem _ (List.mem_append_left _ (List.mem_append_left _ (List.mem_append_right _ h)))
  have k2 := hts (.constant RX2 49 (1000000)) (List.mem_of_getElem? (i := 2) rfl)
  have k3 := hts (.fieldLink RX2 25 "UpDrain$Hunt" "ways" "LUpDrain$Ways;") (List.mem_of_getElem? (i := 3) rfl)
  have k4 := nf_49 (A := args) hK
  have nX9 : ∀ w ∈ u_ws RX9 TX9 3, w ∈ wsX2_solveFor := fun _ h => List.mem_cons_of_mem _ (List.mem_append_left _ (List.mem_append_right _ h))
  have k6 := hts (.methodLink RX2 70 Lib.Math.min.name) (List.mem_of_getElem? (i := 4) rfl)
  have k7 := hts (.static Lib.Math.min.name) (List.mem_of_getElem? (i := 5) rfl)
  have k8 := hts (.initialized "java/lang/Math") (List.mem_of_getElem? (i := 6) rfl)
  have k9 := hts (.code Lib.Math.min.name Lib.Math.min.code 2 (some .int)) (List.mem_of_getElem? (i := 7) rfl)
  have k10 := hts (.fieldLink RX2 15 "UpDrain$Hunt" "leastSum" "[I") (List.mem_of_getElem? (i := 8) rfl)
  have k11 := hts (.fieldLink RX2 9 "UpDrain$Hunt" "fewestLids" "[I") (List.mem_of_getElem? (i := 9) rfl)
  have hE := lg_entry_eq m [.ref (ad 77), .int p0] 8
  rw [← hav] at hE
  rw [hE]
  have hl := lv_entry [.ref (ad 77), .int p0] (n := 8) (Nat.le_of_ble_eq_true rfl)
  generalize (lg_sl [.ref (ad 77), .int p0] ++ List.replicate (8 - (lg_sl [.ref (ad 77), .int p0]).length) Slot.unset).toArray = ls at hl ⊢
  have hl : lv_has ls 8 [(0, .ref (ad 77)), (1, .int p0)] := hl
  clear hE
  unfold f_X2_solveFor at hf
  suffices hgo : ∀ (H : Heap) (locs : List Loc), va_P D vwCl (wd 109 ad C) H → va_S (Aw 109 ad s.heap.size) s.heap H locs → W p l e (headSpec wsX2_solveFor rmX2_solveFor).room s m args below meth c H locs 0 0 QQ (F0 m 0 ls []) from hgo s.heap [] hP hS
  clear hS hP
  intro H locs hP hS
  refine lv_iload_n hx hb dX2_solveFor_0 rfl (lv_at hl 1 rfl) ?_
  obtain ⟨q1, hq1, hf⟩ := bd_e hf
  refine k_iR (va_runS (As := [.int p0]) (rest := []) ⟨hx, hb, hml, hown, hts⟩ (c_J6_bitCount_0f7a4 (l := l) (sz := H.size) (p0 := p0) hq1) (va_cwS 1 hts gX2_solveFor_J6_bitCount_0f7a4 rfl rfl rfl (by decide +kernel) ⟨Nat.le_of_ble_eq_true rfl, Nat.le_of_ble_eq_true rfl⟩) preS0 rfl rfl hl.1 rfl (lv_room (Nat.le_of_ble_eq_true rfl)) dX2_solveFor_1 ⟨Nat.le_refl _, Nat.le_refl _⟩) hA hP hS (fun H locs hP hS hbz_q1 => ?_)
  refine lv_iconst (v := 1) hx hb dX2_solveFor_4 (by decide) ?_
  obtain ⟨q2, htq2, hf⟩ := bd_e hf
  have jnq2 : ∀ (C : Nat → va_E) (H : Heap) (locs : List Loc) (ls : Array Slot), va_P D vwCl (wd 109 ad C) H → va_S (Aw 109 ad s.heap.size) s.heap H locs → (∀ i : Nat, i ≠ 78 ∧ i ≠ 79 ∧ i ≠ 80 → C i = C0 i) → C 5 = .inr (7, [.ref (ad 6), .ref (ad 7), .ref (ad 8), .ref (ad 9), .ref (ad 10), .ref (ad 11), .ref (ad 12), .ref (ad 13), .ref (ad 14), .ref (ad 15), .ref (ad 16), .ref (ad 17), .ref (ad 18), .int t_there, .int t_lift, .int t_none]) → C 6 = aI g 12 t_down → C 8 = aI g 12 t_pac → C 11 = aI g 12 t_lik → C 19 = .inr (9, [.ref (ad 5), .ref (ad 20), .int w_src]) → C 20 = aI g 12 w_over → C 77 = .inr (2, [.ref (ad 5), .ref (ad 19), .ref (ad 78), .ref (ad 79), .ref (ad 80), .int h_solved]) → C 78 = aI g hn1 h_few → C 79 = aI g hn2 h_sum → C 80 = aI g hn3 h_min → lv_has ls 8 [(0, .ref (ad 77)), (1, .int p0)] → W p l e (headSpec wsX2_solveFor rmX2_solveFor).room s m args below meth c H locs 0 0 QQ (F0 m 13 ls [.int q2]) := by
    intro C H locs ls hP hS hag h5 h6 h8 h11 h19 h20 h77 h78 h79 h80 hl
    refine lv_istore_n (lv' := [(2, .int q2), (0, .ref (ad 77)), (1, .int p0)]) hx hb dX2_solveFor_13 rfl hl (by decide) rfl (fun ls hl => ?_)
    refine lv_iload_n hx hb dX2_solveFor_14 rfl (lv_at hl 2 rfl) ?_
    refine lv_bipush (v := 12) hx hb dX2_solveFor_15 (by decide) ?_
    refine lv_imul hx hb dX2_solveFor_17 ?_
    obtain ⟨x3, ex3, hf⟩ := lt_e hf
    refine tp_i ex3 ?_
    refine lv_istore_n (lv' := [(3, .int x3), (2, .int q2), (0, .ref (ad 77)), (1, .int p0)]) hx hb dX2_solveFor_18 rfl hl (by decide) rfl (fun ls hl => ?_)
    refine lv_iconst (v := 0) hx hb dX2_solveFor_19 (by decide) ?_
    refine lv_istore (lv' := [(4, .int 0), (3, .int x3), (2, .int q2), (0, .ref (ad 77)), (1, .int p0)]) hx hb dX2_solveFor_20 hl (by decide) rfl (fun ls hl => ?_)
    have key22 : ∀ (ko : Int32 → (Nat → Int32) → Option ((Nat → Int32) × (Nat → Int32) × (Nat → Int32))), (∀ (x6 : Int32) (f7 : Nat → Int32) (C : Nat → va_E) (H : Heap) (locs : List Loc) (ls : Array Slot), va_P D vwCl (wd 109 ad C) H → va_S (Aw 109 ad s.heap.size) s.heap H locs → (∀ i : Nat, i ≠ 78 ∧ i ≠ 79 ∧ i ≠ 80 → C i = C0 i) → C 5 = .inr (7, [.ref (ad 6), .ref (ad 7), .ref (ad 8), .ref (ad 9), .ref (ad 10), .ref (ad 11), .ref (ad 12), .ref (ad 13), .ref (ad 14), .ref (ad 15), .ref (ad 16), .ref (ad 17), .ref (ad 18), .int t_there, .int t_lift, .int t_none]) → C 6 = aI g 12 t_down → C 8 = aI g 12 t_pac → C 11 = aI g 12 t_lik → C 19 = .inr (9, [.ref (ad 5), .ref (ad 20), .int w_src]) → C 20 = aI g 12 w_over → C 77 = .inr (2, [.ref (ad 5), .ref (ad 19), .ref (ad 78), .ref (ad 79), .ref (ad 80), .int h_solved]) → C 78 = aI g hn1 h_few → C 79 = aI g hn2 h_sum → C 80 = aI g hn3 f7 → lv_has ls 8 [(0, .ref (ad 77)), (1, .int p0), (2, .int q2), (3, .int x3), (4, .int x6)] → ko x6 f7 = some rr → W p l e (headSpec wsX2_solveFor rmX2_solveFor).room s m args below meth c H locs 0 0 QQ (F0 m 54 ls [])) → ∀ (n : Nat) (x4 : Int32) (f5 : Nat → Int32) (C : Nat → va_E) (H : Heap) (locs : List Loc) (ls : Array Slot), va_P D vwCl (wd 109 ad C) H → va_S (Aw 109 ad s.heap.size) s.heap H locs → (∀ i : Nat, i ≠ 78 ∧ i ≠ 79 ∧ i ≠ 80 → C i = C0 i) → C 5 = .inr (7, [.ref (ad 6), .ref (ad 7), .ref (ad 8), .ref (ad 9), .ref (ad 10), .ref (ad 11), .ref (ad 12), .ref (ad 13), .ref (ad 14), .ref (ad 15), .ref (ad 16), .ref (ad 17), .ref (ad 18), .int t_there, .int t_lift, .int t_none]) → C 6 = aI g 12 t_down → C 8 = aI g 12 t_pac → C 11 = aI g 12 t_lik → C 19 = .inr (9, [.ref (ad 5), .ref (ad 20), .int w_src]) → C 20 = aI g 12 w_over → C 77 = .inr (2, [.ref (ad 5), .ref (ad 19), .ref (ad 78), .ref (ad 79), .ref (ad 80), .int h_solved]) → C 78 = aI g hn1 h_few → C 79 = aI g hn2 h_sum → C 80 = aI g hn3 f5 → lv_has ls 8 [(0, .ref (ad 77)), (1, .int p0), (2, .int q2), (3, .int x3), (4, .int x4)] → LX2_solveFor_22 hn3 q2 x3 ko n x4 f5 = some rr → W p l e (headSpec wsX2_solveFor rmX2_solveFor).room s m args below meth c H locs 0 0 QQ (F0 m 22 ls []) := by
      intro ko hko n
      induction n with
      | zero =>
        intro x4 f5 C H locs ls hP hS hag h5 h6 h8 h11 h19 h20 h77 h78 h79 h80 hl hf
        rw [LX2_solveFor_22_z] at hf
        cases hf
      | succ n ih =>
        intro x4 f5 C H locs ls hP hS hag h5 h6 h8 h11 h19 h20 h77 h78 h79 h80 hl hf
        rw [LX2_solveFor_22_s] at hf
        refine lv_iload hx hb dX2_solveFor_22 (lv_at hl 4 rfl) ?_
        refine lv_bipush (v := 12) hx hb dX2_solveFor_24 (by decide) ?_
        refine lv_icmp_ge (tgt := 54) hx hb dX2_solveFor_26 (by decide) (fun c8 => ?_) (fun c8 => ?_)
        · have hf := it_e c8 hf
          exact hko x4 f5 C H locs ls hP hS hag h5 h6 h8 h11 h19 h20 h77 h78 h79 h80 (lv_sub hl [0, 1, 2, 3, 4] rfl) hf
        · have hf := ie_e c8 hf
          refine lv_aload_n hx hb dX2_solveFor_29 rfl (lv_at hl 0 rfl) ?_
          refine r_get (own := RX2) (T := TX2) (n := 6) (ci := 2) (v := .ref (ad 80)) hx hb hts nX2 hown hK hP (by decide) h77 rfl 4 (by decide) k0 rfl dX2_solveFor_30 ?_
          refine lv_iload_n hx hb dX2_solveFor_33 rfl (lv_at hl 3 rfl) ?_
          refine lv_iload hx hb dX2_solveFor_34 (lv_at hl 4 rfl) ?_
          refine lv_iadd hx hb dX2_solveFor_36 ?_
          refine lv_iload_n hx hb dX2_solveFor_37 rfl (lv_at hl 2 rfl) ?_
          obtain ⟨q9, htq9, hf⟩ := bd_e hf
          have jnq9 : ∀ (C : Nat → va_E) (H : Heap) (locs : List Loc) (ls : Array Slot), va_P D vwCl (wd 109 ad C) H → va_S (Aw 109 ad s.heap.size) s.heap H locs → (∀ i : Nat, i ≠ 78 ∧ i ≠ 79 ∧ i ≠ 80 → C i = C0 i) → C 5 = .inr (7, [.ref (ad 6), .ref (ad 7), .ref (ad 8), .ref (ad 9), .ref (ad 10), .ref (ad 11), .ref (ad 12), .ref (ad 13), .ref (ad 14), .ref (ad 15), .ref (ad 16), .ref (ad 17), .ref (ad 18), .int t_there, .int t_lift, .int t_none]) → C 6 = aI g 12 t_down → C 8 = aI g 12 t_pac → C 11 = aI g 12 t_lik → C 19 = .inr (9, [.ref (ad 5), .ref (ad 20), .int w_src]) → C 20 = aI g 12 w_over → C 77 = .inr (2, [.ref (ad 5), .ref (ad 19), .ref (ad 78), .ref (ad 79), .ref (ad 80), .int h_solved]) → C 78 = aI g hn1 h_few → C 79 = aI g hn2 h_sum → C 80 = aI g hn3 f5 → lv_has ls 8 [(0, .ref (ad 77)), (1, .int p0), (2, .int q2), (3, .int x3), (4, .int x4)] → W p l e (headSpec wsX2_solveFor rmX2_solveFor).room s m args below meth c H locs 0 0 QQ (F0 m 47 ls [.int q9, .int (x3 + x4), .ref (ad 80)]) := by
            intro C H locs ls hP hS hag h5 h6 h8 h11 h19 h20 h77 h78 h79 h80 hl
            obtain ⟨i11, f10, ef10, hf⟩ := wi_e hf
            refine r_iast hx hb hK hI hAd hP hS (by decide) h80 i11 dX2_solveFor_47 ef10 (fun C H locs hP hS he hn => ?_)
            have hag : ∀ i : Nat, i ≠ 78 ∧ i ≠ 79 ∧ i ≠ 80 → C i = C0 i := fun i h => (he i (by omega)).trans (hag i h)
            have h5 := (he 5 (by decide)).trans h5
            have h6 := (he 6 (by decide)).trans h6
            have h8 := (he 8 (by decide)).trans h8
            have h11 := (he 11 (by decide)).trans h11
            have h19 := (he 19 (by decide)).trans h19
            have h20 := (he 20 (by decide)).trans h20
            have h77 := (he 77 (by decide)).trans h77
            have h78 := (he 78 (by decide)).trans h78
            have h79 := (he 79 (by decide)).trans h79
            have h80 : C 80 = aI g hn3 f10 := hn
            obtain ⟨x12, ex12, hf⟩ := lt_e hf
            refine lv_iinc (v := x12) (lv' := [(4, .int x12), (0, .ref (ad 77)), (1, .int p0), (2, .int q2), (3, .int x3)]) hx hb dX2_solveFor_48 hl (k := 4) rfl (by rw [ex12]; rfl) (by decide) rfl (fun ls hl => ?_)
            refine lv_goto (tgt := 22) hx hb dX2_solveFor_51 (by decide) ?_
            exact ih x12 f10 C H locs ls hP hS hag h5 h6 h8 h11 h19 h20 h77 h78 h79 h80 (lv_sub hl [1, 2, 3, 4, 0] rfl) hf
          clear hf
          have hf := htq9
          refine lv_if_eq (tgt := 45) hx hb dX2_solveFor_38 (by decide) (fun c13 => ?_) (fun c13 => ?_)
          · have hf := it_e c13 hf
            refine lv_ldc (own := RX2) hx hb hown k2 dX2_solveFor_45 ?_
            obtain rfl := Option.some.inj hf
            exact jnq9 C H locs ls hP hS hag h5 h6 h8 h11 h19 h20 h77 h78 h79 h80 (lv_sub hl [0, 1, 2, 3, 4] rfl)
          · have hf := ie_e c13 hf
            refine lv_iconst (v := 0) hx hb dX2_solveFor_41 (by decide) ?_
            refine lv_goto (tgt := 47) hx hb dX2_solveFor_42 (by decide) ?_
            obtain rfl := Option.some.inj hf
            exact jnq9 C H locs ls hP hS hag h5 h6 h8 h11 h19 h20 h77 h78 h79 h80 (lv_sub hl [0, 1, 2, 3, 4] rfl)
    refine key22 _ (fun x6 f7 C H locs ls hP hS hag h5 h6 h8 h11 h19 h20 h77 h78 h79 h80 hl hf => ?_) FU 0 h_min C H locs ls hP hS hag h5 h6 h8 h11 h19 h20 h77 h78 h79 h80 (lv_sub hl [3, 4, 2, 1, 0] rfl) hf
    refine lv_ldc (own := RX2) hx hb hown k2 dX2_solveFor_54 ?_
    refine lv_istore (lv' := [(4, .int 1000000), (0, .ref (ad 77)), (1, .int p0), (2, .int q2), (3, .int x3)]) hx hb dX2_solveFor_56 hl (by decide) rfl (fun ls hl => ?_)
    refine lv_ldc (own := RX2) hx hb hown k2 dX2_solveFor_58 ?_
    refine lv_istore (lv' := [(5, .int 1000000), (4, .int 1000000), (0, .ref (ad 77)), (1, .int p0), (2, .int q2), (3, .int x3)]) hx hb dX2_solveFor_60 hl (by decide) rfl (fun ls hl => ?_)
    refine lv_iconst (v := 0) hx hb dX2_solveFor_62 (by decide) ?_
    refine lv_istore (lv' := [(6, .int 0), (5, .int 1000000), (4, .int 1000000), (0, .ref (ad 77)), (1, .int p0), (2, .int q2), (3, .int x3)]) hx hb dX2_solveFor_63 hl (by decide) rfl (fun ls hl => ?_)
    have key65 : ∀ (ko : Int32 → Int32 → Int32 → (Nat → Int32) → Option ((Nat → Int32) × (Nat → Int32) × (Nat → Int32))), (∀ (x18 : Int32) (x19 : Int32) (x20 : Int32) (f21 : Nat → Int32) (C : Nat → va_E) (H : Heap) (locs : List Loc) (ls : Array Slot), va_P D vwCl (wd 109 ad C) H → va_S (Aw 109 ad s.heap.size) s.heap H locs → (∀ i : Nat, i ≠ 78 ∧ i ≠ 79 ∧ i ≠ 80 → C i = C0 i) → C 5 = .inr (7, [.ref (ad 6), .ref (ad 7), .ref (ad 8), .ref (ad 9), .ref (ad 10), .ref (ad 11), .ref (ad 12), .ref (ad 13), .ref (ad 14), .ref (ad 15), .ref (ad 16), .ref (ad 17), .ref (ad 18), .int t_there, .int t_lift, .int t_none]) → C 6 = aI g 12 t_down → C 8 = aI g 12 t_pac → C 11 = aI g 12 t_lik → C 19 = .inr (9, [.ref (ad 5), .ref (ad 20), .int w_src]) → C 20 = aI g 12 w_over → C 77 = .inr (2, [.ref (ad 5), .ref (ad 19), .ref (ad 78), .ref (ad 79), .ref (ad 80), .int h_solved]) → C 78 = aI g hn1 h_few → C 79 = aI g hn2 h_sum → C 80 = aI g hn3 f21 → lv_has ls 8 [(0, .ref (ad 77)), (1, .int p0), (2, .int q2), (3, .int x3), (4, .int x18), (5, .int x19), (6, .int x20)] → ko x18 x19 x20 f21 = some rr → W p l e (headSpec wsX2_solveFor rmX2_solveFor).room s m args below meth c H locs 0 0 QQ (F0 m 160 ls [])) → ∀ (n : Nat) (x14 : Int32) (x15 : Int32) (x16 : Int32) (f17 : Nat → Int32) (C : Nat → va_E) (H : Heap) (locs : List Loc) (ls : Array Slot), va_P D vwCl (wd 109 ad C) H → va_S (Aw 109 ad s.heap.size) s.heap H locs → (∀ i : Nat, i ≠ 78 ∧ i ≠ 79 ∧ i ≠ 80 → C i = C0 i) → C 5 = .inr (7, [.ref (ad 6), .ref (ad 7), .ref (ad 8), .ref (ad 9), .ref (ad 10), .ref (ad 11), .ref (ad 12), .ref (ad 13), .ref (ad 14), .ref (ad 15), .ref (ad 16), .ref (ad 17), .ref (ad 18), .int t_there, .int t_lift, .int t_none]) → C 6 = aI g 12 t_down → C 8 = aI g 12 t_pac → C 11 = aI g 12 t_lik → C 19 = .inr (9, [.ref (ad 5), .ref (ad 20), .int w_src]) → C 20 = aI g 12 w_over → C 77 = .inr (2, [.ref (ad 5), .ref (ad 19), .ref (ad 78), .ref (ad 79), .ref (ad 80), .int h_solved]) → C 78 = aI g hn1 h_few → C 79 = aI g hn2 h_sum → C 80 = aI g hn3 f17 → lv_has ls 8 [(0, .ref (ad 77)), (1, .int p0), (2, .int q2), (3, .int x3), (4, .int x14), (5, .int x15), (6, .int x16)] → LX2_solveFor_65 p0 t_lift w_over h_few h_sum hn1 hn2 hn3 q2 x3 ko n x14 x15 x16 f17 = some rr → W p l e (headSpec wsX2_solveFor rmX2_solveFor).room s m args below meth c H locs 0 0 QQ (F0 m 65 ls []) := by
      intro ko hko n
      induction n with
      | zero =>
        intro x14 x15 x16 f17 C H locs ls hP hS hag h5 h6 h8 h11 h19 h20 h77 h78 h79 h80 hl hf
        rw [LX2_solveFor_65_z] at hf
        cases hf
      | succ n ih =>
        intro x14 x15 x16 f17 C H locs ls hP hS hag h5 h6 h8 h11 h19 h20 h77 h78 h79 h80 hl hf
        rw [LX2_solveFor_65_s] at hf
        refine lv_iload hx hb dX2_solveFor_65 (lv_at hl 6 rfl) ?_
        refine lv_bipush (v := 12) hx hb dX2_solveFor_67 (by decide) ?_
        refine lv_icmp_ge (tgt := 160) hx hb dX2_solveFor_69 (by decide) (fun c22 => ?_) (fun c22 => ?_)
        · have hf := it_e c22 hf
          exact hko x14 x15 x16 f17 C H locs ls hP hS hag h5 h6 h8 h11 h19 h20 h77 h78 h79 h80 (lv_sub hl [0, 1, 2, 3, 4, 5, 6] rfl) hf
        · have hf := ie_e c22 hf
          refine lv_iload_n hx hb dX2_solveFor_72 rfl (lv_at hl 2 rfl) ?_
          refine lv_if_ne (tgt := 160) hx hb dX2_solveFor_73 (by decide) (fun c23 => ?_) (fun c23 => ?_)
          · have hf := ie_e c23 hf
            exact hko x14 x15 x16 f17 C H locs ls hP hS hag h5 h6 h8 h11 h19 h20 h77 h78 h79 h80 (lv_sub hl [0, 1, 2, 3, 4, 5, 6] rfl) hf
          · have hf := it_e c23 hf
            refine lv_aload_n hx hb dX2_solveFor_76 rfl (lv_at hl 0 rfl) ?_
            refine lv_iload hx hb dX2_solveFor_77 (lv_at hl 6 rfl) ?_
            refine lv_iload_n hx hb dX2_solveFor_79 rfl (lv_at hl 1 rfl) ?_
            obtain ⟨q24, hq24, hf⟩ := bd_e hf
            refine k_iR (va_runV (C := RX2) (As := [.int x16, .int p0]) (rest := []) ⟨hx, hb, hml, hown, hts⟩ (c_X2_splits (l := l) (sz := H.size) (p0 := x16) (p1 := p0) h19 h20 h77 hq24) (cwV 2 hts gX2_solveFor_X2_splits rfl rfl rfl (by decide +kernel) ⟨Nat.le_of_ble_eq_true rfl, Nat.le_of_ble_eq_true rfl⟩) (preV_of hK hP (by decide) h77 rfl) rfl rfl hl.1 rfl (lv_room (Nat.le_of_ble_eq_true rfl)) dX2_solveFor_80 ⟨Nat.le_refl _, Nat.le_refl _⟩) hA hP hS (fun H locs hP hS hbz_q24 => ?_)
            obtain ⟨q25, htq25, hf⟩ := bd_e hf
            have jnq25 : ∀ (C : Nat → va_E) (H : Heap) (locs : List Loc) (ls : Array Slot), va_P D vwCl (wd 109 ad C) H → va_S (Aw 109 ad s.heap.size) s.heap H locs → (∀ i : Nat, i ≠ 78 ∧ i ≠ 79 ∧ i ≠ 80 → C i = C0 i) → C 5 = .inr (7, [.ref (ad 6), .ref (ad 7), .ref (ad 8), .ref (ad 9), .ref (ad 10), .ref (ad 11), .ref (ad 12), .ref (ad 13), .ref (ad 14), .ref (ad 15), .ref (ad 16), .ref (ad 17), .ref (ad 18), .int t_there, .int t_lift, .int t_none]) → C 6 = aI g 12 t_down → C 8 = aI g 12 t_pac → C 11 = aI g 12 t_lik → C 19 = .inr (9, [.ref (ad 5), .ref (ad 20), .int w_src]) → C 20 = aI g 12 w_over → C 77 = .inr (2, [.ref (ad 5), .ref (ad 19), .ref (ad 78), .ref (ad 79), .ref (ad 80), .int h_solved]) → C 78 = aI g hn1 h_few → C 79 = aI g hn2 h_sum → C 80 = aI g hn3 q25.2.2 → lv_has ls 8 [(0, .ref (ad 77)), (1, .int p0), (2, .int q2), (3, .int x3), (4, .int q25.1), (5, .int q25.2.1), (6, .int x16)] → W p l e (headSpec wsX2_solveFor rmX2_solveFor).room s m args below meth c H locs 0 0 QQ (F0 m 154 ls []) := by
              intro C H locs ls hP hS hag h5 h6 h8 h11 h19 h20 h77 h78 h79 h80 hl
              obtain ⟨x26, ex26, hf⟩ := lt_e hf
              refine lv_iinc (v := x26) (lv' := [(6, .int x26), (0, .ref (ad 77)), (1, .int p0), (2, .int q2), (3, .int x3), (4, .int q25.1), (5, .int q25.2.1)]) hx hb dX2_solveFor_154 hl (k := 6) rfl (by rw [ex26]; rfl) (by decide) rfl (fun ls hl => ?_)
              refine lv_goto (tgt := 65) hx hb dX2_solveFor_157 (by decide) ?_
              exact ih q25.1 q25.2.1 x26 q25.2.2 C H locs ls hP hS hag h5 h6 h8 h11 h19 h20 h77 h78 h79 h80 (lv_sub hl [1, 2, 3, 4, 5, 6, 0] rfl) hf
            clear hf
            have hf := htq25
            refine lv_if_eq (tgt := 154) hx hb dX2_solveFor_83 (by decide) (fun c27 => ?_) (fun c27 => ?_)
            · have hf := it_e c27 hf
              obtain rfl := Option.some.inj hf
              exact jnq25 C H locs ls hP hS hag h5 h6 h8 h11 h19 h20 h77 h78 h79 h80 (lv_sub hl [0, 1, 2, 3, 4, 5, 6] rfl)
            · have hf := ie_e c27 hf
              refine lv_iload_n hx hb dX2_solveFor_86 rfl (lv_at hl 1 rfl) ?_
              refine lv_aload_n hx hb dX2_solveFor_87 rfl (lv_at hl 0 rfl) ?_
              refine r_get (own := RX2) (T := TX2) (n := 6) (ci := 2) (v := .ref (ad 19)) hx hb hts nX2 hown hK hP (by decide) h77 rfl 1 (by decide) k3 rfl dX2_solveFor_88 ?_
              refine r_getN (own := RX2) (T := TX9) (n := 3) (ci := 9) (v := .ref (ad 20)) hx hb hts nX9 hown hK hP (by decide) h19 rfl 1 (by decide) k4 rfl dX2_solveFor_91 ?_
              refine lv_iload hx hb dX2_solveFor_94 (lv_at hl 6 rfl) ?_
              obtain ⟨i29, x28, ex28, hf⟩ := ri_e hf
              refine r_iald hx hb hK hP (by decide) h20 i29 dX2_solveFor_96 ex28 ?_
              refine lv_iand hx hb dX2_solveFor_97 ?_
              obtain ⟨x30, ex30, hf⟩ := lt_e hf
              refine tp_i ex30 ?_
              refine lv_istore (lv' := [(7, .int x30), (0, .ref (ad 77)), (1, .int p0), (2, .int q2), (3, .int x3), (4, .int x14), (5, .int x15), (6, .int x16)]) hx hb dX2_solveFor_98 hl (by decide) rfl (fun ls hl => ?_)
              refine lv_iload hx hb dX2_solveFor_100 (lv_at hl 5 rfl) ?_
              refine lv_aload_n hx hb dX2_solveFor_102 rfl (lv_at hl 1 rfl) ?_
              refine lv_iload hx hb dX2_solveFor_103 (lv_at hl 7 rfl) ?_
              refine lv_iload_n hx hb dX2_solveFor_105 rfl (lv_at hl 2 rfl) ?_
              obtain ⟨q31, hq31, hf⟩ := bd_e hf
              refine k_iR (va_runV (C := RX2) (As := [.int x16, .int p0]) (rest := [.int x14]) ⟨hx, hb, hml, hown, hts⟩ (c_X2_lidsBy (l := l) (sz := H.size) (p0 := x16) (p1 := p0) h19 h20 h77 h78 hq31) (cwV 2 hts gX2_solveFor_X2_lidsBy rfl rfl rfl (by decide +kernel) ⟨Nat.le_of_ble_eq_true rfl, Nat.le_of_ble_eq_true rfl⟩) (preV_of hK hP (by decide) h77 rfl) rfl rfl hl.1 rfl (lv_room (Nat.le_of_ble_eq_true rfl)) dX2_solveFor_106 ⟨Nat.le_refl _, Nat.le_refl _⟩) hA hP hS (fun H locs hP hS hbz_q31 => ?_)
              refine va_mmin (own := RX2) hx hb (hml.trans hl.1.symm) hown k6 k7 k8 k9 (Nat.le_of_ble_eq_true rfl) (Nat.le_of_ble_eq_true rfl) (Nat.le_refl _) (Nat.le_refl _) dX2_solveFor_109 ?_
              obtain ⟨x32, ex32, hf⟩ := lt_e hf
              refine tp_i ex32 ?_
              refine lv_istore (lv' := [(4, .int x32), (7, .int x30), (0, .ref (ad 77)), (1, .int p0), (2, .int q2), (3, .int x3), (5, .int x15), (6, .int x16)]) hx hb dX2_solveFor_112 hl (by decide) rfl (fun ls hl => ?_)
              refine lv_iload hx hb dX2_solveFor_114 (lv_at hl 6 rfl) ?_
              refine lv_aload_n hx hb dX2_solveFor_116 rfl (lv_at hl 2 rfl) ?_
              refine r_get (own := RX2) (T := TX2) (n := 6) (ci := 2) (v := .ref (ad 79)) hx hb hts nX2 hown hK hP (by decide) h77 rfl 3 (by decide) k10 rfl dX2_solveFor_117 ?_
              refine lv_iload hx hb dX2_solveFor_120 (lv_at hl 1 rfl) ?_
              obtain ⟨i34, x33, ex33, hf⟩ := ri_e hf
              refine r_iald hx hb hK hP (by decide) h79 i34 dX2_solveFor_122 ex33 ?_
              refine lv_aload_n hx hb dX2_solveFor_123 rfl (lv_at hl 2 rfl) ?_
              refine r_get (own := RX2) (T := TX2) (n := 6) (ci := 2) (v := .ref (ad 79)) hx hb hts nX2 hown hK hP (by decide) h77 rfl 3 (by decide) k10 rfl dX2_solveFor_124 ?_
              refine lv_iload_n hx hb dX2_solveFor_127 rfl (lv_at hl 3 rfl) ?_
              refine lv_iload hx hb dX2_solveFor_128 (lv_at hl 1 rfl) ?_
              refine lv_ixor hx hb dX2_solveFor_130 ?_
              obtain ⟨i36, x35, ex35, hf⟩ := ri_e hf
              refine r_iald hx hb hK hP (by decide) h79 i36 dX2_solveFor_131 ex35 ?_
              refine lv_iadd hx hb dX2_solveFor_132 ?_
              refine va_mmin (own := RX2) hx hb (hml.trans hl.1.symm) hown k6 k7 k8 k9 (Nat.le_of_ble_eq_true rfl) (Nat.le_of_ble_eq_true rfl) (Nat.le_refl _) (Nat.le_refl _) dX2_solveFor_133 ?_
              obtain ⟨x37, ex37, hf⟩ := lt_e hf
              refine tp_i ex37 ?_
              refine lv_istore (lv' := [(5, .int x37), (4, .int x32), (7, .int x30), (0, .ref (ad 77)), (1, .int p0), (2, .int q2), (3, .int x3), (6, .int x16)]) hx hb dX2_solveFor_136 hl (by decide) rfl (fun ls hl => ?_)
              refine lv_aload_n hx hb dX2_solveFor_138 rfl (lv_at hl 3 rfl) ?_
              refine r_get (own := RX2) (T := TX2) (n := 6) (ci := 2) (v := .ref (ad 80)) hx hb hts nX2 hown hK hP (by decide) h77 rfl 4 (by decide) k0 rfl dX2_solveFor_139 ?_
              refine lv_iload_n hx hb dX2_solveFor_142 rfl (lv_at hl 6 rfl) ?_
              refine lv_iload hx hb dX2_solveFor_143 (lv_at hl 7 rfl) ?_
              refine lv_iadd hx hb dX2_solveFor_145 ?_
              refine lv_aload_n hx hb dX2_solveFor_146 rfl (lv_at hl 3 rfl) ?_
              refine lv_iload hx hb dX2_solveFor_147 (lv_at hl 7 rfl) ?_
              refine lv_iload_n hx hb dX2_solveFor_149 rfl (lv_at hl 4 rfl) ?_
              obtain ⟨q38, hq38, hf⟩ := bd_e hf
              refine k_iR (va_runV (C := RX2) (As := [.int x16, .int p0]) (rest := [.int (x3 + x16), .ref (ad 80)]) ⟨hx, hb, hml, hown, hts⟩ (c_X2_minutesBy (l := l) (sz := H.size) (p0 := x16) (p1 := p0) h5 h19 h20 h77 h80 hq38) (cwV 2 hts gX2_solveFor_X2_minutesBy rfl rfl rfl (by decide +kernel) ⟨Nat.le_of_ble_eq_true rfl, Nat.le_of_ble_eq_true rfl⟩) (preV_of hK hP (by decide) h77 rfl) rfl rfl hl.1 rfl (lv_room (Nat.le_of_ble_eq_true rfl)) dX2_solveFor_150 ⟨Nat.le_refl _, Nat.le_refl _⟩) hA hP hS (fun H locs hP hS hbz_q38 => ?_)
              obtain ⟨i40, f39, ef39, hf⟩ := wi_e hf
              refine r_iast hx hb hK hI hAd hP hS (by decide) h80 i40 dX2_solveFor_153 ef39 (fun C H locs hP hS he hn => ?_)
              have hag : ∀ i : Nat, i ≠ 78 ∧ i ≠ 79 ∧ i ≠ 80 → C i = C0 i := fun i h => (he i (by omega)).trans (hag i h)
              have h5 := (he 5 (by decide)).trans h5
              have h6 := (he 6 (by decide)).trans h6
              have h8 := (he 8 (by decide)).trans h8
              have h11 := (he 11 (by decide)).trans h11
              have h19 := (he 19 (by decide)).trans h19
              have h20 := (he 20 (by decide)).trans h20
              have h77 := (he 77 (by decide)).trans h77
              have h78 := (he 78 (by decide)).trans h78
              have h79 := (he 79 (by decide)).trans h79
              have h80 : C 80 = aI g hn3 f39 := hn
              obtain rfl := Option.some.inj hf
              exact jnq25 C H locs ls hP hS hag h5 h6 h8 h11 h19 h20 h77 h78 h79 h80 (lv_sub hl [3, 4, 5, 6, 1, 0, 7] rfl)
    refine key65 _ (fun x18 x19 x20 f21 C H locs ls hP hS hag h5 h6 h8 h11 h19 h20 h77 h78 h79 h80 hl hf => ?_) FU 1000000 1000000 0 f7 C H locs ls hP hS hag h5 h6 h8 h11 h19 h20 h77 h78 h79 h80 (lv_sub hl [3, 4, 5, 6, 2, 1, 0] rfl) hf
    refine lv_aload_n hx hb dX2_solveFor_160 rfl (lv_at hl 0 rfl) ?_
    refine r_get (own := RX2) (T := TX2) (n := 6) (ci := 2) (v := .ref (ad 78)) hx hb hts nX2 hown hK hP (by decide) h77 rfl 2 (by decide) k11 rfl dX2_solveFor_161 ?_
    refine lv_iload_n hx hb dX2_solveFor_164 rfl (lv_at hl 1 rfl) ?_
    refine lv_iload_n hx hb dX2_solveFor_165 rfl (lv_at hl 2 rfl) ?_
    obtain ⟨q41, htq41, hf⟩ := bd_e hf
    have jnq41 : ∀ (C : Nat → va_E) (H : Heap) (locs : List Loc) (ls : Array Slot), va_P D vwCl (wd 109 ad C) H → va_S (Aw 109 ad s.heap.size) s.heap H locs → (∀ i : Nat, i ≠ 78 ∧ i ≠ 79 ∧ i ≠ 80 → C i = C0 i) → C 5 = .inr (7, [.ref (ad 6), .ref (ad 7), .ref (ad 8), .ref (ad 9), .ref (ad 10), .ref (ad 11), .ref (ad 12), .ref (ad 13), .ref (ad 14), .ref (ad 15), .ref (ad 16), .ref (ad 17), .ref (ad 18), .int t_there, .int t_lift, .int t_none]) → C 6 = aI g 12 t_down → C 8 = aI g 12 t_pac → C 11 = aI g 12 t_lik → C 19 = .inr (9, [.ref (ad 5), .ref (ad 20), .int w_src]) → C 20 = aI g 12 w_over → C 77 = .inr (2, [.ref (ad 5), .ref (ad 19), .ref (ad 78), .ref (ad 79), .ref (ad 80), .int h_solved]) → C 78 = aI g hn1 h_few → C 79 = aI g hn2 h_sum → C 80 = aI g hn3 f21 → lv_has ls 8 [(0, .ref (ad 77)), (1, .int p0), (2, .int q2), (3, .int x3), (4, .int x18), (5, .int x19), (6, .int x20)] → W p l e (headSpec wsX2_solveFor rmX2_solveFor).room s m args below meth c H locs 0 0 QQ (F0 m 175 ls [.int q41, .int p0, .ref (ad 78)]) := by
      intro C H locs ls hP hS hag h5 h6 h8 h11 h19 h20 h77 h78 h79 h80 hl
      obtain ⟨i43, f42, ef42, hf⟩ := wi_e hf
      refine r_iast hx hb hK hI hAd hP hS (by decide) h78 i43 dX2_solveFor_175 ef42 (fun C H locs hP hS he hn => ?_)
      have hag : ∀ i : Nat, i ≠ 78 ∧ i ≠ 79 ∧ i ≠ 80 → C i = C0 i := fun i h => (he i (by omega)).trans (hag i h)
      have h5 := (he 5 (by decide)).trans h5
      have h6 := (he 6 (by decide)).trans h6
      have h8 := (he 8 (by decide)).trans h8
      have h11 := (he 11 (by decide)).trans h11
      have h19 := (he 19 (by decide)).trans h19
      have h20 := (he 20 (by decide)).trans h20
      have h77 := (he 77 (by decide)).trans h77
      have h79 := (he 79 (by decide)).trans h79
      have h80 := (he 80 (by decide)).trans h80
      have h78 : C 78 = aI g hn1 f42 := hn
      refine lv_aload_n hx hb dX2_solveFor_176 rfl (lv_at hl 0 rfl) ?_
      refine r_get (own := RX2) (T := TX2) (n := 6) (ci := 2) (v := .ref (ad 79)) hx hb hts nX2 hown hK hP (by decide) h77 rfl 3 (by decide) k10 rfl dX2_solveFor_177 ?_
      refine lv_iload_n hx hb dX2_solveFor_180 rfl (lv_at hl 1 rfl) ?_
      refine lv_iload_n hx hb dX2_solveFor_181 rfl (lv_at hl 2 rfl) ?_
      obtain ⟨q44, htq44, hf⟩ := bd_e hf
      have jnq44 : ∀ (C : Nat → va_E) (H : Heap) (locs : List Loc) (ls : Array Slot), va_P D vwCl (wd 109 ad C) H → va_S (Aw 109 ad s.heap.size) s.heap H locs → (∀ i : Nat, i ≠ 78 ∧ i ≠ 79 ∧ i ≠ 80 → C i = C0 i) → C 5 = .inr (7, [.ref (ad 6), .ref (ad 7), .ref (ad 8), .ref (ad 9), .ref (ad 10), .ref (ad 11), .ref (ad 12), .ref (ad 13), .ref (ad 14), .ref (ad 15), .ref (ad 16), .ref (ad 17), .ref (ad 18), .int t_there, .int t_lift, .int t_none]) → C 6 = aI g 12 t_down → C 8 = aI g 12 t_pac → C 11 = aI g 12 t_lik → C 19 = .inr (9, [.ref (ad 5), .ref (ad 20), .int w_src]) → C 20 = aI g 12 w_over → C 77 = .inr (2, [.ref (ad 5), .ref (ad 19), .ref (ad 78), .ref (ad 79), .ref (ad 80), .int h_solved]) → C 78 = aI g hn1 f42 → C 79 = aI g hn2 h_sum → C 80 = aI g hn3 f21 → lv_has ls 8 [(0, .ref (ad 77)), (1, .int p0), (2, .int q2), (3, .int x3), (4, .int x18), (5, .int x19), (6, .int x20)] → W p l e (headSpec wsX2_solveFor rmX2_solveFor).room s m args below meth c H locs 0 0 QQ (F0 m 200 ls [.int q44, .int p0, .ref (ad 79)]) := by
        intro C H locs ls hP hS hag h5 h6 h8 h11 h19 h20 h77 h78 h79 h80 hl
        obtain ⟨i46, f45, ef45, hf⟩ := wi_e hf
        refine r_iast hx hb hK hI hAd hP hS (by decide) h79 i46 dX2_solveFor_200 ef45 (fun C H locs hP hS he hn => ?_)
        have hag : ∀ i : Nat, i ≠ 78 ∧ i ≠ 79 ∧ i ≠ 80 → C i = C0 i := fun i h => (he i (by omega)).trans (hag i h)
        have h5 := (he 5 (by decide)).trans h5
        have h6 := (he 6 (by decide)).trans h6
        have h8 := (he 8 (by decide)).trans h8
        have h11 := (he 11 (by decide)).trans h11
        have h19 := (he 19 (by decide)).trans h19
        have h20 := (he 20 (by decide)).trans h20
        have h77 := (he 77 (by decide)).trans h77
        have h78 := (he 78 (by decide)).trans h78
        have h80 := (he 80 (by decide)).trans h80
        have h79 : C 79 = aI g hn2 f45 := hn
        refine lv_iload_n hx hb dX2_solveFor_201 rfl (lv_at hl 2 rfl) ?_
        refine lv_if_ne (tgt := 210) hx hb dX2_solveFor_202 (by decide) (fun c47 => ?_) (fun c47 => ?_)
        · have hf := ie_e c47 hf
          obtain rfl := Option.some.inj hf
          rw [← hQ]
          exact e_vW hx hb hr hP hS ⟨hag, h78, h79, h80⟩ hlocks dX2_solveFor_210
        · have hf := it_e c47 hf
          refine lv_aload_n hx hb dX2_solveFor_205 rfl (lv_at hl 0 rfl) ?_
          refine lv_iload_n hx hb dX2_solveFor_206 rfl (lv_at hl 3 rfl) ?_
          obtain ⟨q48, hq48, hf⟩ := bd_e hf
          refine k_vW (va_runV (C := RX2) (As := [.int x3]) (rest := []) ⟨hx, hb, hml, hown, hts⟩ (c_X2_walkToLids (l := l) (sz := H.size) (p0 := x3) hI h5 h6 h8 h77 h80 hq48) (cwV 1 hts gX2_solveFor_X2_walkToLids rfl rfl rfl (by decide +kernel) ⟨Nat.le_of_ble_eq_true rfl, Nat.le_of_ble_eq_true rfl⟩) (preV_of hK hP (by decide) h77 rfl) rfl rfl hl.1 rfl (lv_room (Nat.le_of_ble_eq_true rfl)) dX2_solveFor_207 ⟨Nat.le_refl _, Nat.le_refl _⟩) hA hAd hS (fun C H locs hP hS hpo => ?_)
          obtain ⟨he, h80⟩ := hpo
          have hag : ∀ i : Nat, i ≠ 78 ∧ i ≠ 79 ∧ i ≠ 80 → C i = C0 i := fun i h => (he i (by omega)).trans (hag i h)
          have h5 := (he 5 (by decide)).trans h5
          have h6 := (he 6 (by decide)).trans h6
          have h8 := (he 8 (by decide)).trans h8
          have h11 := (he 11 (by decide)).trans h11
          have h19 := (he 19 (by decide)).trans h19
          have h20 := (he 20 (by decide)).trans h20
          have h77 := (he 77 (by decide)).trans h77
          have h78 := (he 78 (by decide)).trans h78
          have h79 := (he 79 (by decide)).trans h79
          obtain rfl := Option.some.inj hf
          rw [← hQ]
          exact e_vW hx hb hr hP hS ⟨hag, h78, h79, h80⟩ hlocks dX2_solveFor_210
      clear hf
      have hf := htq44
      refine lv_if_eq (tgt := 189) hx hb dX2_solveFor_182 (by decide) (fun c49 => ?_) (fun c49 => ?_)
      · have hf := it_e c49 hf
        refine lv_iload hx hb dX2_solveFor_189 (lv_at hl 5 rfl) ?_
        refine lv_aload_n hx hb dX2_solveFor_191 rfl (lv_at hl 0 rfl) ?_
        refine r_get (own := RX2) (T := TX2) (n := 6) (ci := 2) (v := .ref (ad 19)) hx hb hts nX2 hown hK hP (by decide) h77 rfl 1 (by decide) k3 rfl dX2_solveFor_192 ?_
        refine lv_iload_n hx hb dX2_solveFor_195 rfl (lv_at hl 1 rfl) ?_
        obtain ⟨q50, hq50, hf⟩ := bd_e hf
        refine k_iR (va_runV (C := RX9) (As := [.int p0]) (rest := [.int x19, .int p0, .ref (ad 79)]) ⟨hx, hb, hml, hown, hts⟩ (c_X9_likelyOf (l := l) (sz := H.size) (p0 := p0) h5 h11 h19 hq50) (cwV 1 hts gX2_solveFor_X9_likelyOf rfl rfl rfl (by decide +kernel) ⟨Nat.le_of_ble_eq_true rfl, Nat.le_of_ble_eq_true rfl⟩) (preV_of hK hP (by decide) h19 rfl) rfl rfl hl.1 rfl (lv_room (Nat.le_of_ble_eq_true rfl)) dX2_solveFor_196 ⟨Nat.le_refl _, Nat.le_refl _⟩) hA hP hS (fun H locs hP hS hbz_q50 => ?_)
        refine lv_iadd hx hb dX2_solveFor_199 ?_
        obtain rfl := Option.some.inj hf
        exact jnq44 C H locs ls hP hS hag h5 h6 h8 h11 h19 h20 h77 h78 h79 h80 (lv_sub hl [0, 1, 2, 3, 4, 5, 6] rfl)
      · have hf := ie_e c49 hf
        refine lv_iconst (v := 0) hx hb dX2_solveFor_185 (by decide) ?_
        refine lv_goto (tgt := 200) hx hb dX2_solveFor_186 (by decide) ?_
        obtain rfl := Option.some.inj hf
        exact jnq44 C H locs ls hP hS hag h5 h6 h8 h11 h19 h20 h77 h78 h79 h80 (lv_sub hl [0, 1, 2, 3, 4, 5, 6] rfl)
    clear hf
    have hf := htq41
    refine lv_if_eq (tgt := 173) hx hb dX2_solveFor_166 (by decide) (fun c51 => ?_) (fun c51 => ?_)
    · have hf := it_e c51 hf
      refine lv_iload hx hb dX2_solveFor_173 (lv_at hl 4 rfl) ?_
      obtain rfl := Option.some.inj hf
      exact jnq41 C H locs ls hP hS hag h5 h6 h8 h11 h19 h20 h77 h78 h79 h80 (lv_sub hl [0, 1, 2, 3, 4, 5, 6] rfl)
    · have hf := ie_e c51 hf
      refine lv_iconst (v := 0) hx hb dX2_solveFor_169 (by decide) ?_
      refine lv_goto (tgt := 175) hx hb dX2_solveFor_170 (by decide) ?_
      obtain rfl := Option.some.inj hf
      exact jnq41 C H locs ls hP hS hag h5 h6 h8 h11 h19 h20 h77 h78 h79 h80 (lv_sub hl [0, 1, 2, 3, 4, 5, 6] rfl)
  clear hf
  have hf := htq2
  refine lv_icmp_gt (tgt := 12) hx hb dX2_solveFor_5 (by decide) (fun c52 => ?_) (fun c52 => ?_)
  · have hf := it_e c52 hf
    refine lv_iconst (v := 0) hx hb dX2_solveFor_12 (by decide) ?_
    obtain rfl := Option.some.inj hf
    exact jnq2 C H locs ls hP hS hag h5 h6 h8 h11 h19 h20 h77 h78 h79 h80 (lv_sub hl [0, 1] rfl)
  · have hf := ie_e c52 hf
    refine lv_iconst (v := 1) hx hb dX2_solveFor_8 (by decide) ?_
    refine lv_goto (tgt := 13) hx hb dX2_solveFor_9 (by decide) ?_
    obtain rfl := Option.some.inj hf
    exact jnq2 C H locs ls hP hS hag h5 h6 h8 h11 h19 h20 h77 h78 h79 h80 (lv_sub hl [0, 1] rfl)

def LX2_firstOfFewest_10 (w_src : Int32) (w_over : Nat → Int32) (h_few : Nat → Int32) (hn1 : Nat) (ko : Int32 → Option (Int32)) : Nat → Int32 → Option (Int32)
  | 0, _ => none
  | n + 1, x1 =>
    if 12 ≤ x1 then
      ko x1
    else
      (f_X2_splits x1 w_src w_over).bind fun q4 =>
      if q4 = 0 then
        lt (x1 + 1 : Int32) fun x6 =>
        LX2_firstOfFewest_10 w_src w_over h_few hn1 ko n x6
      else
        (f_X2_lidsBy x1 w_src w_over h_few hn1).bind fun q7 =>
        ri h_few hn1 (w_src) fun x8 =>
        if q7 = x8 then
          some (x1)
        else
          lt (x1 + 1 : Int32) fun x11 =>
          LX2_firstOfFewest_10 w_src w_over h_few hn1 ko n x11
theorem LX2_firstOfFewest_10_z (w_src : Int32) (w_over : Nat → Int32) (h_few : Nat → Int32) (hn1 : Nat) (ko : Int32 → Option (Int32)) (x1 : Int32) : LX2_firstOfFewest_10 w_src w_over h_few hn1 ko 0 x1 = none := rfl
theorem LX2_firstOfFewest_10_s (w_src : Int32) (w_over : Nat → Int32) (h_few : Nat → Int32) (hn1 : Nat) (ko : Int32 → Option (Int32)) (n : Nat) (x1 : Int32) : LX2_firstOfFewest_10 w_src w_over h_few hn1 ko (n + 1) x1 =
    if 12 ≤ x1 then
      ko x1
    else
      (f_X2_splits x1 w_src w_over).bind fun q4 =>
      if q4 = 0 then
        lt (x1 + 1 : Int32) fun x6 =>
        LX2_firstOfFewest_10 w_src w_over h_few hn1 ko n x6
      else
        (f_X2_lidsBy x1 w_src w_over h_few hn1).bind fun q7 =>
        ri h_few hn1 (w_src) fun x8 =>
        if q7 = x8 then
          some (x1)
        else
          lt (x1 + 1 : Int32) fun x11 =>
          LX2_firstOfFewest_10 w_src w_over h_few hn1 ko n x11 := rfl
def f_X2_firstOfFewest (w_src : Int32) (w_over : Nat → Int32) (h_few : Nat → Int32) (hn1 : Nat) : Option (Int32) :=
  LX2_firstOfFewest_10 w_src w_over h_few hn1 (fun x2 =>
    some ((-1))) FU 0
abbrev rmX2_firstOfFewest : Room := { frames := 2, cells := 0, slots := 0, locals := 44 }
set_option maxHeartbeats 4000000 in
set_option maxRecDepth 100000 in
theorem c_X2_firstOfFewest {l : Launch} {D : va_G} {g : Nat → ClassId} {ad : Nat → Nat} {C : Nat → va_E} {sz : Nat} {w_src : Int32} {w_over : Nat → Int32} {h_solved : Int32} {hn1 : Nat} {h_few : Nat → Int32}  {rr : Int32} (h19 : C 19 = .inr (9, [.ref (ad 5), .ref (ad 20), .int w_src])) (h20 : C 20 = aI g 12 w_over) (h77 : C 77 = .inr (2, [.ref (ad 5), .ref (ad 19), .ref (ad 78), .ref (ad 79), .ref (ad 80), .int h_solved])) (h78 : C 78 = aI g hn1 h_few) (hf : f_X2_firstOfFewest w_src w_over h_few hn1 = some rr) : Met l yX2_firstOfFewest wsX2_firstOfFewest rmX2_firstOfFewest (PcW D g 109 ad C sz [.ref (ad 77)]) (QiR sz tP rr) 0 0 (An sz) := by
  refine Met.ofW (cc := cX2_firstOfFewest) (maxL := 3) (ret := (some .int)) (by decide) rfl ?_
  intro p e s m args below meth c s₁ B hml hv
  obtain ⟨hav, hsz, hK, hP⟩ := hv
  subst hsz
  have hx := B.exec
  have hb := B.bytes
  have hr := B.returns
  have hts := atoms_spec (ws := wsX2_firstOfFewest) B.pre
  have hown : s.vm.findClass RX2 = some m.cls := findClass_of_methodNamed B.named
  have hlocks := B.notSynchronized
  generalize hQ : MQ below (QiR s.heap.size tP rr) args s 0 0 (An s.heap.size) = QQ
  have hS : va_S (An s.heap.size) s.heap s.heap [] := va_S.rf
  have hA : ∀ q, s.heap.size ≤ q → (An s.heap.size) q := fun q h => h
  have k0 := hts (.fieldLink RX2 25 "UpDrain$Hunt" "ways" "LUpDrain$Ways;") (List.mem_of_getElem? (i := 1) rfl)
  have nX2 : ∀ w ∈ u_ws RX2 TX2 6, w ∈ wsX2_firstOfFewest := fun _ h => List.mem_cons_of_mem _ (List.mem_append_left _ (List.mem_append_right _ h))
  have k2 := nf_52 (A := args) hK
  have nX9 : ∀ w ∈ u_ws RX9 TX9 3, w ∈ wsX2_firstOfFewest := fun _ h => List.mem_cons_of_mem _ (List.mem_append_right _ h)
  have k4 := hts (.fieldLink RX2 9 "UpDrain$Hunt" "fewestLids" "[I") (List.mem_of_getElem? (i := 2) rfl)
  have hE := lg_entry_eq m [.ref (ad 77)] 3
  rw [← hav] at hE
  rw [hE]
  have hl := lv_entry [.ref (ad 77)] (n := 3) (Nat.le_of_ble_eq_true rfl)
  generalize (lg_sl [.ref (ad 77)] ++ List.replicate (3 - (lg_sl [.ref (ad 77)]).length) Slot.unset).toArray = ls at hl ⊢
  have hl : lv_has ls 3 [(0, .ref (ad 77))] := hl
  clear hE
  unfold f_X2_firstOfFewest at hf
  suffices hgo : ∀ (H : Heap) (locs : List Loc), va_P D vwCl (wd 109 ad C) H → va_S (An s.heap.size) s.heap H locs → W p l e (headSpec wsX2_firstOfFewest rmX2_firstOfFewest).room s m args below meth c H locs 0 0 QQ (F0 m 0 ls []) from hgo s.heap [] hP hS
  clear hS hP
  intro H locs hP hS
  refine lv_aload_n hx hb dX2_firstOfFewest_0 rfl (lv_at hl 0 rfl) ?_
  refine r_get (own := RX2) (T := TX2) (n := 6) (ci := 2) (v := .ref (ad 19)) hx hb hts nX2 hown hK hP (by decide) h77 rfl 1 (by decide) k0 rfl dX2_firstOfFewest_1 ?_
  refine r_getN (own := RX2) (T := TX9) (n := 3) (ci := 9) (v := .int w_src) hx hb hts nX9 hown hK hP (by decide) h19 rfl 2 (by decide) k2 rfl dX2_firstOfFewest_4 ?_
  refine lv_istore_n (lv' := [(1, .int w_src), (0, .ref (ad 77))]) hx hb dX2_firstOfFewest_7 rfl hl (by decide) rfl (fun ls hl => ?_)
  refine lv_iconst (v := 0) hx hb dX2_firstOfFewest_8 (by decide) ?_
  refine lv_istore_n (lv' := [(2, .int 0), (1, .int w_src), (0, .ref (ad 77))]) hx hb dX2_firstOfFewest_9 rfl hl (by decide) rfl (fun ls hl => ?_)
  have key10 : ∀ (ko : Int32 → Option (Int32)), (∀ (x2 : Int32) (C : Nat → va_E) (H : Heap) (locs : List Loc) (ls : Array Slot), va_P D vwCl (wd 109 ad C) H → va_S (An s.heap.size) s.heap H locs → C 19 = .inr (9, [.ref (ad 5), .ref (ad 20), .int w_src]) → C 20 = aI g 12 w_over → C 77 = .inr (2, [.ref (ad 5), .ref (ad 19), .ref (ad 78), .ref (ad 79), .ref (ad 80), .int h_solved]) → C 78 = aI g hn1 h_few → lv_has ls 3 [(0, .ref (ad 77)), (1, .int w_src), (2, .int x2)] → ko x2 = some rr → W p l e (headSpec wsX2_firstOfFewest rmX2_firstOfFewest).room s m args below meth c H locs 0 0 QQ (F0 m 48 ls [])) → ∀ (n : Nat) (x1 : Int32) (C : Nat → va_E) (H : Heap) (locs : List Loc) (ls : Array Slot), va_P D vwCl (wd 109 ad C) H → va_S (An s.heap.size) s.heap H locs → C 19 = .inr (9, [.ref (ad 5), .ref (ad 20), .int w_src]) → C 20 = aI g 12 w_over → C 77 = .inr (2, [.ref (ad 5), .ref (ad 19), .ref (ad 78), .ref (ad 79), .ref (ad 80), .int h_solved]) → C 78 = aI g hn1 h_few → lv_has ls 3 [(0, .ref (ad 77)), (1, .int w_src), (2, .int x1)] → LX2_firstOfFewest_10 w_src w_over h_few hn1 ko n x1 = some rr → W p l e (headSpec wsX2_firstOfFewest rmX2_firstOfFewest).room s m args below meth c H locs 0 0 QQ (F0 m 10 ls []) := by
    intro ko hko n
    induction n with
    | zero =>
      intro x1 C H locs ls hP hS h19 h20 h77 h78 hl hf
      rw [LX2_firstOfFewest_10_z] at hf
      cases hf
    | succ n ih =>
      intro x1 C H locs ls hP hS h19 h20 h77 h78 hl hf
      rw [LX2_firstOfFewest_10_s] at hf
      refine lv_iload_n hx hb dX2_firstOfFewest_10 rfl (lv_at hl 2 rfl) ?_
      refine lv_bipush (v := 12) hx hb dX2_firstOfFewest_11 (by decide) ?_
      refine lv_icmp_ge (tgt := 48) hx hb dX2_firstOfFewest_13 (by decide) (fun c3 => ?_) (fun c3 => ?_)
      · have hf := it_e c3 hf
        exact hko x1 C H locs ls hP hS h19 h20 h77 h78 (lv_sub hl [0, 1, 2] rfl) hf
      · have hf := ie_e c3 hf
        refine lv_aload_n hx hb dX2_firstOfFewest_16 rfl (lv_at hl 0 rfl) ?_
        refine lv_iload_n hx hb dX2_firstOfFewest_17 rfl (lv_at hl 2 rfl) ?_
        refine lv_iload_n hx hb dX2_firstOfFewest_18 rfl (lv_at hl 1 rfl) ?_
        obtain ⟨q4, hq4, hf⟩ := bd_e hf
        refine k_iR (va_runV (C := RX2) (As := [.int x1, .int w_src]) (rest := []) ⟨hx, hb, hml, hown, hts⟩ (c_X2_splits (l := l) (sz := H.size) (p0 := x1) (p1 := w_src) h19 h20 h77 hq4) (cwV 2 hts gX2_firstOfFewest_X2_splits rfl rfl rfl (by decide +kernel) ⟨Nat.le_of_ble_eq_true rfl, Nat.le_of_ble_eq_true rfl⟩) (preV_of hK hP (by decide) h77 rfl) rfl rfl hl.1 rfl (lv_room (Nat.le_of_ble_eq_true rfl)) dX2_firstOfFewest_19 ⟨Nat.le_refl _, Nat.le_refl _⟩) hA hP hS (fun H locs hP hS hbz_q4 => ?_)
        refine lv_if_eq (tgt := 42) hx hb dX2_firstOfFewest_22 (by decide) (fun c5 => ?_) (fun c5 => ?_)
        · have hf := it_e c5 hf
          obtain ⟨x6, ex6, hf⟩ := lt_e hf
          refine lv_iinc (v := x6) (lv' := [(2, .int x6), (0, .ref (ad 77)), (1, .int w_src)]) hx hb dX2_firstOfFewest_42 hl (k := 2) rfl (by rw [ex6]; rfl) (by decide) rfl (fun ls hl => ?_)
          refine lv_goto (tgt := 10) hx hb dX2_firstOfFewest_45 (by decide) ?_
          exact ih x6 C H locs ls hP hS h19 h20 h77 h78 (lv_sub hl [1, 2, 0] rfl) hf
        · have hf := ie_e c5 hf
          refine lv_aload_n hx hb dX2_firstOfFewest_25 rfl (lv_at hl 0 rfl) ?_
          refine lv_iload_n hx hb dX2_firstOfFewest_26 rfl (lv_at hl 2 rfl) ?_
          refine lv_iload_n hx hb dX2_firstOfFewest_27 rfl (lv_at hl 1 rfl) ?_
          obtain ⟨q7, hq7, hf⟩ := bd_e hf
          refine k_iR (va_runV (C := RX2) (As := [.int x1, .int w_src]) (rest := []) ⟨hx, hb, hml, hown, hts⟩ (c_X2_lidsBy (l := l) (sz := H.size) (p0 := x1) (p1 := w_src) h19 h20 h77 h78 hq7) (cwV 2 hts gX2_firstOfFewest_X2_lidsBy rfl rfl rfl (by decide +kernel) ⟨Nat.le_of_ble_eq_true rfl, Nat.le_of_ble_eq_true rfl⟩) (preV_of hK hP (by decide) h77 rfl) rfl rfl hl.1 rfl (lv_room (Nat.le_of_ble_eq_true rfl)) dX2_firstOfFewest_28 ⟨Nat.le_refl _, Nat.le_refl _⟩) hA hP hS (fun H locs hP hS hbz_q7 => ?_)
          refine lv_aload_n hx hb dX2_firstOfFewest_31 rfl (lv_at hl 0 rfl) ?_
          refine r_get (own := RX2) (T := TX2) (n := 6) (ci := 2) (v := .ref (ad 78)) hx hb hts nX2 hown hK hP (by decide) h77 rfl 2 (by decide) k4 rfl dX2_firstOfFewest_32 ?_
          refine lv_iload_n hx hb dX2_firstOfFewest_35 rfl (lv_at hl 1 rfl) ?_
          obtain ⟨i9, x8, ex8, hf⟩ := ri_e hf
          refine r_iald hx hb hK hP (by decide) h78 i9 dX2_firstOfFewest_36 ex8 ?_
          refine lv_icmp_ne (tgt := 42) hx hb dX2_firstOfFewest_37 (by decide) (fun c10 => ?_) (fun c10 => ?_)
          · have hf := ie_e c10 hf
            obtain ⟨x11, ex11, hf⟩ := lt_e hf
            refine lv_iinc (v := x11) (lv' := [(2, .int x11), (0, .ref (ad 77)), (1, .int w_src)]) hx hb dX2_firstOfFewest_42 hl (k := 2) rfl (by rw [ex11]; rfl) (by decide) rfl (fun ls hl => ?_)
            refine lv_goto (tgt := 10) hx hb dX2_firstOfFewest_45 (by decide) ?_
            exact ih x11 C H locs ls hP hS h19 h20 h77 h78 (lv_sub hl [1, 2, 0] rfl) hf
          · have hf := it_e c10 hf
            refine lv_iload_n hx hb dX2_firstOfFewest_40 rfl (lv_at hl 2 rfl) ?_
            obtain rfl := Option.some.inj hf
            rw [← hQ]
            exact e_iR hx hb hr rfl (tP_i _) hS hlocks dX2_firstOfFewest_41
  refine key10 _ (fun x2 C H locs ls hP hS h19 h20 h77 h78 hl hf => ?_) FU 0 C H locs ls hP hS h19 h20 h77 h78 (lv_sub hl [2, 1, 0] rfl) hf
  refine lv_iconst (v := (-1)) hx hb dX2_firstOfFewest_48 (by decide) ?_
  obtain rfl := Option.some.inj hf
  rw [← hQ]
  exact e_iR hx hb hr rfl (tP_i _) hS hlocks dX2_firstOfFewest_49

def LX2_nextLid_2 (p0 : Int32) (p1 : Int32) (t_down : Nat → Int32) (t_pac : Nat → Int32) (t_lift : Int32) (w_over : Nat → Int32) (h_min : Nat → Int32) (hn3 : Nat) (ko : Int32 → Option (Int32)) : Nat → Int32 → Option (Int32)
  | 0, _ => none
  | n + 1, x1 =>
    if 12 ≤ x1 then
      ko x1
    else
      (f_X2_splits x1 p1 w_over).bind fun q4 =>
      if q4 = 0 then
        lt (x1 + 1 : Int32) fun x6 =>
        LX2_nextLid_2 p0 p1 t_down t_pac t_lift w_over h_min hn3 ko n x6
      else
        (f_X9_minutesBetween p0 x1 t_down t_pac).bind fun q7 =>
        (f_X2_minutesBy x1 p1 t_lift w_over h_min hn3).bind fun q8 =>
        lt ((q7 + q8) : Int32) fun x9 =>
        ri h_min hn3 (((p1 * 12) + p0)) fun x10 =>
        if x9 = x10 then
          some (x1)
        else
          lt (x1 + 1 : Int32) fun x13 =>
          LX2_nextLid_2 p0 p1 t_down t_pac t_lift w_over h_min hn3 ko n x13
theorem LX2_nextLid_2_z (p0 : Int32) (p1 : Int32) (t_down : Nat → Int32) (t_pac : Nat → Int32) (t_lift : Int32) (w_over : Nat → Int32) (h_min : Nat → Int32) (hn3 : Nat) (ko : Int32 → Option (Int32)) (x1 : Int32) : LX2_nextLid_2 p0 p1 t_down t_pac t_lift w_over h_min hn3 ko 0 x1 = none := rfl
theorem LX2_nextLid_2_s (p0 : Int32) (p1 : Int32) (t_down : Nat → Int32) (t_pac : Nat → Int32) (t_lift : Int32) (w_over : Nat → Int32) (h_min : Nat → Int32) (hn3 : Nat) (ko : Int32 → Option (Int32)) (n : Nat) (x1 : Int32) : LX2_nextLid_2 p0 p1 t_down t_pac t_lift w_over h_min hn3 ko (n + 1) x1 =
    if 12 ≤ x1 then
      ko x1
    else
      (f_X2_splits x1 p1 w_over).bind fun q4 =>
      if q4 = 0 then
        lt (x1 + 1 : Int32) fun x6 =>
        LX2_nextLid_2 p0 p1 t_down t_pac t_lift w_over h_min hn3 ko n x6
      else
        (f_X9_minutesBetween p0 x1 t_down t_pac).bind fun q7 =>
        (f_X2_minutesBy x1 p1 t_lift w_over h_min hn3).bind fun q8 =>
        lt ((q7 + q8) : Int32) fun x9 =>
        ri h_min hn3 (((p1 * 12) + p0)) fun x10 =>
        if x9 = x10 then
          some (x1)
        else
          lt (x1 + 1 : Int32) fun x13 =>
          LX2_nextLid_2 p0 p1 t_down t_pac t_lift w_over h_min hn3 ko n x13 := rfl
def f_X2_nextLid (p0 : Int32) (p1 : Int32) (t_down : Nat → Int32) (t_pac : Nat → Int32) (t_lift : Int32) (w_over : Nat → Int32) (h_min : Nat → Int32) (hn3 : Nat) : Option (Int32) :=
  LX2_nextLid_2 p0 p1 t_down t_pac t_lift w_over h_min hn3 (fun x2 =>
    some ((-1))) FU 0
abbrev rmX2_nextLid : Room := { frames := 2, cells := 0, slots := 0, locals := 46 }
set_option maxHeartbeats 4000000 in
set_option maxRecDepth 100000 in
theorem c_X2_nextLid {l : Launch} {D : va_G} {g : Nat → ClassId} {ad : Nat → Nat} {C : Nat → va_E} {sz : Nat} {t_there : Int32} {t_lift : Int32} {t_none : Int32} {t_down : Nat → Int32} {t_pac : Nat → Int32} {w_src : Int32} {w_over : Nat → Int32} {h_solved : Int32} {hn3 : Nat} {h_min : Nat → Int32} {p0 : Int32} {p1 : Int32} {rr : Int32} (h5 : C 5 = .inr (7, [.ref (ad 6), .ref (ad 7), .ref (ad 8), .ref (ad 9), .ref (ad 10), .ref (ad 11), .ref (ad 12), .ref (ad 13), .ref (ad 14), .ref (ad 15), .ref (ad 16), .ref (ad 17), .ref (ad 18), .int t_there, .int t_lift, .int t_none])) (h6 : C 6 = aI g 12 t_down) (h8 : C 8 = aI g 12 t_pac) (h19 : C 19 = .inr (9, [.ref (ad 5), .ref (ad 20), .int w_src])) (h20 : C 20 = aI g 12 w_over) (h77 : C 77 = .inr (2, [.ref (ad 5), .ref (ad 19), .ref (ad 78), .ref (ad 79), .ref (ad 80), .int h_solved])) (h80 : C 80 = aI g hn3 h_min) (hf : f_X2_nextLid p0 p1 t_down t_pac t_lift w_over h_min hn3 = some rr) : Met l yX2_nextLid wsX2_nextLid rmX2_nextLid (PcW D g 109 ad C sz [.ref (ad 77), .int p0, .int p1]) (QiR sz tP rr) 0 0 (An sz) := by
  refine Met.ofW (cc := cX2_nextLid) (maxL := 5) (ret := (some .int)) (by decide) rfl ?_
  intro p e s m args below meth c s₁ B hml hv
  obtain ⟨hav, hsz, hK, hP⟩ := hv
  subst hsz
  have hx := B.exec
  have hb := B.bytes
  have hr := B.returns
  have hts := atoms_spec (ws := wsX2_nextLid) B.pre
  have hown : s.vm.findClass RX2 = some m.cls := findClass_of_methodNamed B.named
  have hlocks := B.notSynchronized
  generalize hQ : MQ below (QiR s.heap.size tP rr) args s 0 0 (An s.heap.size) = QQ
  have hS : va_S (An s.heap.size) s.heap s.heap [] := va_S.rf
  have hA : ∀ q, s.heap.size ≤ q → (An s.heap.size) q := fun q h => h
  have k0 := hts (.fieldLink RX2 25 "UpDrain$Hunt" "ways" "LUpDrain$Ways;") (List.mem_of_getElem? (i := 1) rfl)
  have nX2 : ∀ w ∈ u_ws RX2 TX2 6, w ∈ wsX2_nextLid := fun _ h => List.mem_cons_of_mem _ (List.mem_append_left _ (List.mem_append_left _ (List.mem_append_right _ h)))
  have k2 := hts (.fieldLink RX2 18 "UpDrain$Hunt" "leastMinutes" "[I") (List.mem_of_getElem? (i := 2) rfl)
  have hE := lg_entry_eq m [.ref (ad 77), .int p0, .int p1] 5
  rw [← hav] at hE
  rw [hE]
  have hl := lv_entry [.ref (ad 77), .int p0, .int p1] (n := 5) (Nat.le_of_ble_eq_true rfl)
  generalize (lg_sl [.ref (ad 77), .int p0, .int p1] ++ List.replicate (5 - (lg_sl [.ref (ad 77), .int p0, .int p1]).length) Slot.unset).toArray = ls at hl ⊢
  have hl : lv_has ls 5 [(0, .ref (ad 77)), (1, .int p0), (2, .int p1)] := hl
  clear hE
  unfold f_X2_nextLid at hf
  suffices hgo : ∀ (H : Heap) (locs : List Loc), va_P D vwCl (wd 109 ad C) H → va_S (An s.heap.size) s.heap H locs → W p l e (headSpec wsX2_nextLid rmX2_nextLid).room s m args below meth c H locs 0 0 QQ (F0 m 0 ls []) from hgo s.heap [] hP hS
  clear hS hP
  intro H locs hP hS
  refine lv_iconst (v := 0) hx hb dX2_nextLid_0 (by decide) ?_
  refine lv_istore_n (lv' := [(3, .int 0), (0, .ref (ad 77)), (1, .int p0), (2, .int p1)]) hx hb dX2_nextLid_1 rfl hl (by decide) rfl (fun ls hl => ?_)
  have key2 : ∀ (ko : Int32 → Option (Int32)), (∀ (x2 : Int32) (C : Nat → va_E) (H : Heap) (locs : List Loc) (ls : Array Slot), va_P D vwCl (wd 109 ad C) H → va_S (An s.heap.size) s.heap H locs → C 5 = .inr (7, [.ref (ad 6), .ref (ad 7), .ref (ad 8), .ref (ad 9), .ref (ad 10), .ref (ad 11), .ref (ad 12), .ref (ad 13), .ref (ad 14), .ref (ad 15), .ref (ad 16), .ref (ad 17), .ref (ad 18), .int t_there, .int t_lift, .int t_none]) → C 6 = aI g 12 t_down → C 8 = aI g 12 t_pac → C 19 = .inr (9, [.ref (ad 5), .ref (ad 20), .int w_src]) → C 20 = aI g 12 w_over → C 77 = .inr (2, [.ref (ad 5), .ref (ad 19), .ref (ad 78), .ref (ad 79), .ref (ad 80), .int h_solved]) → C 80 = aI g hn3 h_min → lv_has ls 5 [(0, .ref (ad 77)), (1, .int p0), (2, .int p1), (3, .int x2)] → ko x2 = some rr → W p l e (headSpec wsX2_nextLid rmX2_nextLid).room s m args below meth c H locs 0 0 QQ (F0 m 59 ls [])) → ∀ (n : Nat) (x1 : Int32) (C : Nat → va_E) (H : Heap) (locs : List Loc) (ls : Array Slot), va_P D vwCl (wd 109 ad C) H → va_S (An s.heap.size) s.heap H locs → C 5 = .inr (7, [.ref (ad 6), .ref (ad 7), .ref (ad 8), .ref (ad 9), .ref (ad 10), .ref (ad 11), .ref (ad 12), .ref (ad 13), .ref (ad 14), .ref (ad 15), .ref (ad 16), .ref (ad 17), .ref (ad 18), .int t_there, .int t_lift, .int t_none]) → C 6 = aI g 12 t_down → C 8 = aI g 12 t_pac → C 19 = .inr (9, [.ref (ad 5), .ref (ad 20), .int w_src]) → C 20 = aI g 12 w_over → C 77 = .inr (2, [.ref (ad 5), .ref (ad 19), .ref (ad 78), .ref (ad 79), .ref (ad 80), .int h_solved]) → C 80 = aI g hn3 h_min → lv_has ls 5 [(0, .ref (ad 77)), (1, .int p0), (2, .int p1), (3, .int x1)] → LX2_nextLid_2 p0 p1 t_down t_pac t_lift w_over h_min hn3 ko n x1 = some rr → W p l e (headSpec wsX2_nextLid rmX2_nextLid).room s m args below meth c H locs 0 0 QQ (F0 m 2 ls []) := by
    intro ko hko n
    induction n with
    | zero =>
      intro x1 C H locs ls hP hS h5 h6 h8 h19 h20 h77 h80 hl hf
      rw [LX2_nextLid_2_z] at hf
      cases hf
    | succ n ih =>
      intro x1 C H locs ls hP hS h5 h6 h8 h19 h20 h77 h80 hl hf
      rw [LX2_nextLid_2_s] at hf
      refine lv_iload_n hx hb dX2_nextLid_2 rfl (lv_at hl 3 rfl) ?_
      refine lv_bipush (v := 12) hx hb dX2_nextLid_3 (by decide) ?_
      refine lv_icmp_ge (tgt := 59) hx hb dX2_nextLid_5 (by decide) (fun c3 => ?_) (fun c3 => ?_)
      · have hf := it_e c3 hf
        exact hko x1 C H locs ls hP hS h5 h6 h8 h19 h20 h77 h80 (lv_sub hl [0, 1, 2, 3] rfl) hf
      · have hf := ie_e c3 hf
        refine lv_aload_n hx hb dX2_nextLid_8 rfl (lv_at hl 0 rfl) ?_
        refine lv_iload_n hx hb dX2_nextLid_9 rfl (lv_at hl 3 rfl) ?_
        refine lv_iload_n hx hb dX2_nextLid_10 rfl (lv_at hl 2 rfl) ?_
        obtain ⟨q4, hq4, hf⟩ := bd_e hf
        refine k_iR (va_runV (C := RX2) (As := [.int x1, .int p1]) (rest := []) ⟨hx, hb, hml, hown, hts⟩ (c_X2_splits (l := l) (sz := H.size) (p0 := x1) (p1 := p1) h19 h20 h77 hq4) (cwV 2 hts gX2_nextLid_X2_splits rfl rfl rfl (by decide +kernel) ⟨Nat.le_of_ble_eq_true rfl, Nat.le_of_ble_eq_true rfl⟩) (preV_of hK hP (by decide) h77 rfl) rfl rfl hl.1 rfl (lv_room (Nat.le_of_ble_eq_true rfl)) dX2_nextLid_11 ⟨Nat.le_refl _, Nat.le_refl _⟩) hA hP hS (fun H locs hP hS hbz_q4 => ?_)
        refine lv_if_eq (tgt := 53) hx hb dX2_nextLid_14 (by decide) (fun c5 => ?_) (fun c5 => ?_)
        · have hf := it_e c5 hf
          obtain ⟨x6, ex6, hf⟩ := lt_e hf
          refine lv_iinc (v := x6) (lv' := [(3, .int x6), (0, .ref (ad 77)), (1, .int p0), (2, .int p1)]) hx hb dX2_nextLid_53 hl (k := 3) rfl (by rw [ex6]; rfl) (by decide) rfl (fun ls hl => ?_)
          refine lv_goto (tgt := 2) hx hb dX2_nextLid_56 (by decide) ?_
          exact ih x6 C H locs ls hP hS h5 h6 h8 h19 h20 h77 h80 (lv_sub hl [1, 2, 3, 0] rfl) hf
        · have hf := ie_e c5 hf
          refine lv_aload_n hx hb dX2_nextLid_17 rfl (lv_at hl 0 rfl) ?_
          refine r_get (own := RX2) (T := TX2) (n := 6) (ci := 2) (v := .ref (ad 19)) hx hb hts nX2 hown hK hP (by decide) h77 rfl 1 (by decide) k0 rfl dX2_nextLid_18 ?_
          refine lv_iload_n hx hb dX2_nextLid_21 rfl (lv_at hl 1 rfl) ?_
          refine lv_iload_n hx hb dX2_nextLid_22 rfl (lv_at hl 3 rfl) ?_
          obtain ⟨q7, hq7, hf⟩ := bd_e hf
          refine k_iR (va_runV (C := RX9) (As := [.int p0, .int x1]) (rest := []) ⟨hx, hb, hml, hown, hts⟩ (c_X9_minutesBetween (l := l) (sz := H.size) (p0 := p0) (p1 := x1) h5 h6 h8 h19 hq7) (cwV 2 hts gX2_nextLid_X9_minutesBetween rfl rfl rfl (by decide +kernel) ⟨Nat.le_of_ble_eq_true rfl, Nat.le_of_ble_eq_true rfl⟩) (preV_of hK hP (by decide) h19 rfl) rfl rfl hl.1 rfl (lv_room (Nat.le_of_ble_eq_true rfl)) dX2_nextLid_23 ⟨Nat.le_refl _, Nat.le_refl _⟩) hA hP hS (fun H locs hP hS hbz_q7 => ?_)
          refine lv_aload_n hx hb dX2_nextLid_26 rfl (lv_at hl 0 rfl) ?_
          refine lv_iload_n hx hb dX2_nextLid_27 rfl (lv_at hl 3 rfl) ?_
          refine lv_iload_n hx hb dX2_nextLid_28 rfl (lv_at hl 2 rfl) ?_
          obtain ⟨q8, hq8, hf⟩ := bd_e hf
          refine k_iR (va_runV (C := RX2) (As := [.int x1, .int p1]) (rest := [.int q7]) ⟨hx, hb, hml, hown, hts⟩ (c_X2_minutesBy (l := l) (sz := H.size) (p0 := x1) (p1 := p1) h5 h19 h20 h77 h80 hq8) (cwV 2 hts gX2_nextLid_X2_minutesBy rfl rfl rfl (by decide +kernel) ⟨Nat.le_of_ble_eq_true rfl, Nat.le_of_ble_eq_true rfl⟩) (preV_of hK hP (by decide) h77 rfl) rfl rfl hl.1 rfl (lv_room (Nat.le_of_ble_eq_true rfl)) dX2_nextLid_29 ⟨Nat.le_refl _, Nat.le_refl _⟩) hA hP hS (fun H locs hP hS hbz_q8 => ?_)
          refine lv_iadd hx hb dX2_nextLid_32 ?_
          obtain ⟨x9, ex9, hf⟩ := lt_e hf
          refine tp_i ex9 ?_
          refine lv_istore (lv' := [(4, .int x9), (0, .ref (ad 77)), (1, .int p0), (2, .int p1), (3, .int x1)]) hx hb dX2_nextLid_33 hl (by decide) rfl (fun ls hl => ?_)
          refine lv_iload hx hb dX2_nextLid_35 (lv_at hl 0 rfl) ?_
          refine lv_aload_n hx hb dX2_nextLid_37 rfl (lv_at hl 1 rfl) ?_
          refine r_get (own := RX2) (T := TX2) (n := 6) (ci := 2) (v := .ref (ad 80)) hx hb hts nX2 hown hK hP (by decide) h77 rfl 4 (by decide) k2 rfl dX2_nextLid_38 ?_
          refine lv_iload_n hx hb dX2_nextLid_41 rfl (lv_at hl 3 rfl) ?_
          refine lv_bipush (v := 12) hx hb dX2_nextLid_42 (by decide) ?_
          refine lv_imul hx hb dX2_nextLid_44 ?_
          refine lv_iload_n hx hb dX2_nextLid_45 rfl (lv_at hl 2 rfl) ?_
          refine lv_iadd hx hb dX2_nextLid_46 ?_
          obtain ⟨i11, x10, ex10, hf⟩ := ri_e hf
          refine r_iald hx hb hK hP (by decide) h80 i11 dX2_nextLid_47 ex10 ?_
          refine lv_icmp_ne (tgt := 53) hx hb dX2_nextLid_48 (by decide) (fun c12 => ?_) (fun c12 => ?_)
          · have hf := ie_e c12 hf
            obtain ⟨x13, ex13, hf⟩ := lt_e hf
            refine lv_iinc (v := x13) (lv' := [(3, .int x13), (4, .int x9), (0, .ref (ad 77)), (1, .int p0), (2, .int p1)]) hx hb dX2_nextLid_53 hl (k := 4) rfl (by rw [ex13]; rfl) (by decide) rfl (fun ls hl => ?_)
            refine lv_goto (tgt := 2) hx hb dX2_nextLid_56 (by decide) ?_
            exact ih x13 C H locs ls hP hS h5 h6 h8 h19 h20 h77 h80 (lv_sub hl [2, 3, 4, 0] rfl) hf
          · have hf := it_e c12 hf
            refine lv_iload_n hx hb dX2_nextLid_51 rfl (lv_at hl 4 rfl) ?_
            obtain rfl := Option.some.inj hf
            rw [← hQ]
            exact e_iR hx hb hr rfl (tP_i _) hS hlocks dX2_nextLid_52
  refine key2 _ (fun x2 C H locs ls hP hS h5 h6 h8 h19 h20 h77 h80 hl hf => ?_) FU 0 C H locs ls hP hS h5 h6 h8 h19 h20 h77 h80 (lv_sub hl [1, 2, 3, 0] rfl) hf
  refine lv_iconst (v := (-1)) hx hb dX2_nextLid_59 (by decide) ?_
  obtain rfl := Option.some.inj hf
  rw [← hQ]
  exact e_iR hx hb hr rfl (tP_i _) hS hlocks dX2_nextLid_60

def f_X3_lidOf (p0 : Int32) (p1 : Int32) : Option (Int32) :=
  some (((p0 >>> ((4 * p1) &&& 31)) &&& 15))
abbrev rmX3_lidOf : Room := { frames := 0, cells := 0, slots := 0, locals := 0 }
set_option maxHeartbeats 4000000 in
set_option maxRecDepth 100000 in
theorem c_X3_lidOf {l : Launch} {sz : Nat}  {p0 : Int32} {p1 : Int32} {rr : Int32} (hf : f_X3_lidOf p0 p1 = some rr) : Met l yX3_lidOf wsX3_lidOf rmX3_lidOf (PcS sz [.int p0, .int p1]) (QiR sz tP rr) 0 0 (An sz) := by
  refine Met.ofW (cc := cX3_lidOf) (maxL := 2) (ret := (some .int)) (by decide) rfl ?_
  intro p e s m args below meth c s₁ B hml hv
  obtain ⟨hav, hsz⟩ := hv
  subst hsz
  have hx := B.exec
  have hb := B.bytes
  have hr := B.returns
  have hts := atoms_spec (ws := wsX3_lidOf) B.pre
  have hown : s.vm.findClass RX3 = some m.cls := findClass_of_methodNamed B.named
  have hlocks := B.notSynchronized
  generalize hQ : MQ below (QiR s.heap.size tP rr) args s 0 0 (An s.heap.size) = QQ
  have hS : va_S (An s.heap.size) s.heap s.heap [] := va_S.rf
  have hA : ∀ q, s.heap.size ≤ q → (An s.heap.size) q := fun q h => h
  have hE := lg_entry_eq m [.int p0, .int p1] 2
  rw [← hav] at hE
  rw [hE]
  have hl := lv_entry [.int p0, .int p1] (n := 2) (Nat.le_of_ble_eq_true rfl)
  generalize (lg_sl [.int p0, .int p1] ++ List.replicate (2 - (lg_sl [.int p0, .int p1]).length) Slot.unset).toArray = ls at hl ⊢
  have hl : lv_has ls 2 [(0, .int p0), (1, .int p1)] := hl
  clear hE
  unfold f_X3_lidOf at hf
  suffices hgo : ∀ (H : Heap) (locs : List Loc), va_S (An s.heap.size) s.heap H locs → W p l e (headSpec wsX3_lidOf rmX3_lidOf).room s m args below meth c H locs 0 0 QQ (F0 m 0 ls []) from hgo s.heap [] hS
  clear hS
  intro H locs hS
  refine lv_iload_n hx hb dX3_lidOf_0 rfl (lv_at hl 0 rfl) ?_
  refine lv_iconst (v := 4) hx hb dX3_lidOf_1 (by decide) ?_
  refine lv_iload_n hx hb dX3_lidOf_2 rfl (lv_at hl 1 rfl) ?_
  refine lv_imul hx hb dX3_lidOf_3 ?_
  refine lv_ishr hx hb dX3_lidOf_4 ?_
  refine lv_bipush (v := 15) hx hb dX3_lidOf_5 (by decide) ?_
  refine lv_iand hx hb dX3_lidOf_7 ?_
  obtain rfl := Option.some.inj hf
  rw [← hQ]
  exact e_iR hx hb hr rfl (tP_i _) hS hlocks dX3_lidOf_8

def LX3_answersOf_6 (p0 : Int32) (p1 : Int32) (p2 : Int32) (p3 : Int32) (t_down : Nat → Int32) (t_pac : Nat → Int32) (w_over : Nat → Int32) (ko : Int32 → Int32 → Option (Int32)) : Nat → Int32 → Int32 → Option (Int32)
  | 0, _, _ => none
  | n + 1, x1, x2 =>
    if p2 ≤ x2 then
      ko x1 x2
    else
      (f_X3_lidOf p1 x2).bind fun q6 =>
      ri w_over 12 (q6) fun x7 =>
      (f_X10_has x7 p0).bind fun q9 =>
      (if q9 = 0 then
        some (0)
      else
        some ((1 <<< (x2 &&& 31))) : Option (Int32)).bind fun q10 =>
      lt ((x1 ||| q10) : Int32) fun x11 =>
      (f_X9_minutesBetween p0 q6 t_down t_pac).bind fun q12 =>
      if p3 < q12 then
        lt (x2 + 1 : Int32) fun x14 =>
        LX3_answersOf_6 p0 p1 p2 p3 t_down t_pac w_over ko n x11 x14
      else
        ko x11 x2
theorem LX3_answersOf_6_z (p0 : Int32) (p1 : Int32) (p2 : Int32) (p3 : Int32) (t_down : Nat → Int32) (t_pac : Nat → Int32) (w_over : Nat → Int32) (ko : Int32 → Int32 → Option (Int32)) (x1 : Int32) (x2 : Int32) : LX3_answersOf_6 p0 p1 p2 p3 t_down t_pac w_over ko 0 x1 x2 = none := rfl
theorem LX3_answersOf_6_s (p0 : Int32) (p1 : Int32) (p2 : Int32) (p3 : Int32) (t_down : Nat → Int32) (t_pac : Nat → Int32) (w_over : Nat → Int32) (ko : Int32 → Int32 → Option (Int32)) (n : Nat) (x1 : Int32) (x2 : Int32) : LX3_answersOf_6 p0 p1 p2 p3 t_down t_pac w_over ko (n + 1) x1 x2 =
    if p2 ≤ x2 then
      ko x1 x2
    else
      (f_X3_lidOf p1 x2).bind fun q6 =>
      ri w_over 12 (q6) fun x7 =>
      (f_X10_has x7 p0).bind fun q9 =>
      (if q9 = 0 then
        some (0)
      else
        some ((1 <<< (x2 &&& 31))) : Option (Int32)).bind fun q10 =>
      lt ((x1 ||| q10) : Int32) fun x11 =>
      (f_X9_minutesBetween p0 q6 t_down t_pac).bind fun q12 =>
      if p3 < q12 then
        lt (x2 + 1 : Int32) fun x14 =>
        LX3_answersOf_6 p0 p1 p2 p3 t_down t_pac w_over ko n x11 x14
      else
        ko x11 x2 := rfl
def f_X3_answersOf (p0 : Int32) (p1 : Int32) (p2 : Int32) (p3 : Int32) (t_down : Nat → Int32) (t_pac : Nat → Int32) (w_over : Nat → Int32) : Option (Int32) :=
  LX3_answersOf_6 p0 p1 p2 p3 t_down t_pac w_over (fun x3 x4 =>
    some (x3)) FU 0 0
abbrev rmX3_answersOf : Room := { frames := 1, cells := 0, slots := 0, locals := 26 }
set_option maxHeartbeats 4000000 in
set_option maxRecDepth 100000 in
theorem c_X3_answersOf {l : Launch} {D : va_G} {g : Nat → ClassId} {ad : Nat → Nat} {C : Nat → va_E} {sz : Nat} {t_there : Int32} {t_lift : Int32} {t_none : Int32} {t_down : Nat → Int32} {t_pac : Nat → Int32} {w_src : Int32} {w_over : Nat → Int32} {p0 : Int32} {p1 : Int32} {p2 : Int32} {p3 : Int32} {rr : Int32} (h5 : C 5 = .inr (7, [.ref (ad 6), .ref (ad 7), .ref (ad 8), .ref (ad 9), .ref (ad 10), .ref (ad 11), .ref (ad 12), .ref (ad 13), .ref (ad 14), .ref (ad 15), .ref (ad 16), .ref (ad 17), .ref (ad 18), .int t_there, .int t_lift, .int t_none])) (h6 : C 6 = aI g 12 t_down) (h8 : C 8 = aI g 12 t_pac) (h19 : C 19 = .inr (9, [.ref (ad 5), .ref (ad 20), .int w_src])) (h20 : C 20 = aI g 12 w_over) (h81 : C 81 = .inr (3, [.ref (ad 5), .ref (ad 19), .ref (ad 82), .ref (ad 83)])) (hf : f_X3_answersOf p0 p1 p2 p3 t_down t_pac w_over = some rr) : Met l yX3_answersOf wsX3_answersOf rmX3_answersOf (PcW D g 109 ad C sz [.ref (ad 81), .int p0, .int p1, .int p2, .int p3]) (QiR sz tP rr) 0 0 (An sz) := by
  refine Met.ofW (cc := cX3_answersOf) (maxL := 8) (ret := (some .int)) (by decide) rfl ?_
  intro p e s m args below meth c s₁ B hml hv
  obtain ⟨hav, hsz, hK, hP⟩ := hv
  subst hsz
  have hx := B.exec
  have hb := B.bytes
  have hr := B.returns
  have hts := atoms_spec (ws := wsX3_answersOf) B.pre
  have hown : s.vm.findClass RX3 = some m.cls := findClass_of_methodNamed B.named
  have hlocks := B.notSynchronized
  generalize hQ : MQ below (QiR s.heap.size tP rr) args s 0 0 (An s.heap.size) = QQ
  have hS : va_S (An s.heap.size) s.heap s.heap [] := va_S.rf
  have hA : ∀ q, s.heap.size ≤ q → (An s.heap.size) q := fun q h => h
  have k0 := hts (.fieldLink RX3 22 "UpDrain$Lids" "ways" "LUpDrain$Ways;") (List.mem_of_getElem? (i := 1) rfl)
  have nX3 : ∀ w ∈ u_ws RX3 TX3 4, w ∈ wsX3_answersOf := fun _ h => List.mem_cons_of_mem _ (List.mem_append_left _ (List.mem_append_left _ (List.mem_append_right _ h)))
  have k2 := nf_48 (A := args) hK
  have nX9 : ∀ w ∈ u_ws RX9 TX9 3, w ∈ wsX3_answersOf := fun _ h => List.mem_cons_of_mem _ (List.mem_append_left _ (List.mem_append_right _ h))
  have k4 := nm_9 hK
  have k5 := hts (.initialized RX10) (List.mem_of_getElem? (i := 7) rfl)
  have k6 := hts (.static yX10_has) (List.mem_of_getElem? (i := 6) rfl)
  have hE := lg_entry_eq m [.ref (ad 81), .int p0, .int p1, .int p2, .int p3] 8
  rw [← hav] at hE
  rw [hE]
  have hl := lv_entry [.ref (ad 81), .int p0, .int p1, .int p2, .int p3] (n := 8) (Nat.le_of_ble_eq_true rfl)
  generalize (lg_sl [.ref (ad 81), .int p0, .int p1, .int p2, .int p3] ++ List.replicate (8 - (lg_sl [.ref (ad 81), .int p0, .int p1, .int p2, .int p3]).length) Slot.unset).toArray = ls at hl ⊢
  have hl : lv_has ls 8 [(0, .ref (ad 81)), (1, .int p0), (2, .int p1), (3, .int p2), (4, .int p3)] := hl
  clear hE
  unfold f_X3_answersOf at hf
  suffices hgo : ∀ (H : Heap) (locs : List Loc), va_P D vwCl (wd 109 ad C) H → va_S (An s.heap.size) s.heap H locs → W p l e (headSpec wsX3_answersOf rmX3_answersOf).room s m args below meth c H locs 0 0 QQ (F0 m 0 ls []) from hgo s.heap [] hP hS
  clear hS hP
  intro H locs hP hS
  refine lv_iconst (v := 0) hx hb dX3_answersOf_0 (by decide) ?_
  refine lv_istore (lv' := [(5, .int 0), (0, .ref (ad 81)), (1, .int p0), (2, .int p1), (3, .int p2), (4, .int p3)]) hx hb dX3_answersOf_1 hl (by decide) rfl (fun ls hl => ?_)
  refine lv_iconst (v := 0) hx hb dX3_answersOf_3 (by decide) ?_
  refine lv_istore (lv' := [(6, .int 0), (5, .int 0), (0, .ref (ad 81)), (1, .int p0), (2, .int p1), (3, .int p2), (4, .int p3)]) hx hb dX3_answersOf_4 hl (by decide) rfl (fun ls hl => ?_)
  have key6 : ∀ (ko : Int32 → Int32 → Option (Int32)), (∀ (x3 : Int32) (x4 : Int32) (C : Nat → va_E) (H : Heap) (locs : List Loc) (ls : Array Slot), va_P D vwCl (wd 109 ad C) H → va_S (An s.heap.size) s.heap H locs → C 5 = .inr (7, [.ref (ad 6), .ref (ad 7), .ref (ad 8), .ref (ad 9), .ref (ad 10), .ref (ad 11), .ref (ad 12), .ref (ad 13), .ref (ad 14), .ref (ad 15), .ref (ad 16), .ref (ad 17), .ref (ad 18), .int t_there, .int t_lift, .int t_none]) → C 6 = aI g 12 t_down → C 8 = aI g 12 t_pac → C 19 = .inr (9, [.ref (ad 5), .ref (ad 20), .int w_src]) → C 20 = aI g 12 w_over → C 81 = .inr (3, [.ref (ad 5), .ref (ad 19), .ref (ad 82), .ref (ad 83)]) → lv_has ls 8 [(0, .ref (ad 81)), (1, .int p0), (2, .int p1), (3, .int p2), (4, .int p3), (5, .int x3), (6, .int x4)] → ko x3 x4 = some rr → W p l e (headSpec wsX3_answersOf rmX3_answersOf).room s m args below meth c H locs 0 0 QQ (F0 m 74 ls [])) → ∀ (n : Nat) (x1 : Int32) (x2 : Int32) (C : Nat → va_E) (H : Heap) (locs : List Loc) (ls : Array Slot), va_P D vwCl (wd 109 ad C) H → va_S (An s.heap.size) s.heap H locs → C 5 = .inr (7, [.ref (ad 6), .ref (ad 7), .ref (ad 8), .ref (ad 9), .ref (ad 10), .ref (ad 11), .ref (ad 12), .ref (ad 13), .ref (ad 14), .ref (ad 15), .ref (ad 16), .ref (ad 17), .ref (ad 18), .int t_there, .int t_lift, .int t_none]) → C 6 = aI g 12 t_down → C 8 = aI g 12 t_pac → C 19 = .inr (9, [.ref (ad 5), .ref (ad 20), .int w_src]) → C 20 = aI g 12 w_over → C 81 = .inr (3, [.ref (ad 5), .ref (ad 19), .ref (ad 82), .ref (ad 83)]) → lv_has ls 8 [(0, .ref (ad 81)), (1, .int p0), (2, .int p1), (3, .int p2), (4, .int p3), (5, .int x1), (6, .int x2)] → LX3_answersOf_6 p0 p1 p2 p3 t_down t_pac w_over ko n x1 x2 = some rr → W p l e (headSpec wsX3_answersOf rmX3_answersOf).room s m args below meth c H locs 0 0 QQ (F0 m 6 ls []) := by
    intro ko hko n
    induction n with
    | zero =>
      intro x1 x2 C H locs ls hP hS h5 h6 h8 h19 h20 h81 hl hf
      rw [LX3_answersOf_6_z] at hf
      cases hf
    | succ n ih =>
      intro x1 x2 C H locs ls hP hS h5 h6 h8 h19 h20 h81 hl hf
      rw [LX3_answersOf_6_s] at hf
      refine lv_iload hx hb dX3_answersOf_6 (lv_at hl 6 rfl) ?_
      refine lv_iload_n hx hb dX3_answersOf_8 rfl (lv_at hl 3 rfl) ?_
      refine lv_icmp_ge (tgt := 74) hx hb dX3_answersOf_9 (by decide) (fun c5 => ?_) (fun c5 => ?_)
      · have hf := it_e c5 hf
        exact hko x1 x2 C H locs ls hP hS h5 h6 h8 h19 h20 h81 (lv_sub hl [0, 1, 2, 3, 4, 5, 6] rfl) hf
      · have hf := ie_e c5 hf
        refine lv_iload_n hx hb dX3_answersOf_12 rfl (lv_at hl 2 rfl) ?_
        refine lv_iload hx hb dX3_answersOf_13 (lv_at hl 6 rfl) ?_
        obtain ⟨q6, hq6, hf⟩ := bd_e hf
        refine k_iR (va_runS (As := [.int p1, .int x2]) (rest := []) ⟨hx, hb, hml, hown, hts⟩ (c_X3_lidOf (l := l) (sz := H.size) (p0 := p1) (p1 := x2) hq6) (va_cwS 2 hts gX3_answersOf_X3_lidOf rfl rfl rfl (by decide +kernel) ⟨Nat.le_of_ble_eq_true rfl, Nat.le_of_ble_eq_true rfl⟩) preS0 rfl rfl hl.1 rfl (lv_room (Nat.le_of_ble_eq_true rfl)) dX3_answersOf_15 ⟨Nat.le_refl _, Nat.le_refl _⟩) hA hP hS (fun H locs hP hS hbz_q6 => ?_)
        refine lv_istore (lv' := [(7, .int q6), (0, .ref (ad 81)), (1, .int p0), (2, .int p1), (3, .int p2), (4, .int p3), (5, .int x1), (6, .int x2)]) hx hb dX3_answersOf_18 hl (by decide) rfl (fun ls hl => ?_)
        refine lv_iload hx hb dX3_answersOf_20 (lv_at hl 6 rfl) ?_
        refine lv_aload_n hx hb dX3_answersOf_22 rfl (lv_at hl 1 rfl) ?_
        refine r_get (own := RX3) (T := TX3) (n := 4) (ci := 3) (v := .ref (ad 19)) hx hb hts nX3 hown hK hP (by decide) h81 rfl 1 (by decide) k0 rfl dX3_answersOf_23 ?_
        refine r_getN (own := RX3) (T := TX9) (n := 3) (ci := 9) (v := .ref (ad 20)) hx hb hts nX9 hown hK hP (by decide) h19 rfl 1 (by decide) k2 rfl dX3_answersOf_26 ?_
        refine lv_iload hx hb dX3_answersOf_29 (lv_at hl 0 rfl) ?_
        obtain ⟨i8, x7, ex7, hf⟩ := ri_e hf
        refine r_iald hx hb hK hP (by decide) h20 i8 dX3_answersOf_31 ex7 ?_
        refine lv_iload_n hx hb dX3_answersOf_32 rfl (lv_at hl 2 rfl) ?_
        obtain ⟨q9, hq9, hf⟩ := bd_e hf
        refine k_iR (va_runSN (As := [.int x7, .int p0]) (rest := [.int x1]) ⟨hx, hb, hml, hown, hts⟩ (c_X10_has (l := l) (sz := H.size) (p0 := x7) (p1 := p0) hq9) ⟨va_cnB 2 hts gX3_answersOf_X10_has_n35 rfl rfl rfl k4 k5 (by decide +kernel) ⟨Nat.le_of_ble_eq_true rfl, Nat.le_of_ble_eq_true rfl⟩, k6, trivial⟩ preS0 rfl rfl hl.1 rfl (lv_room (Nat.le_of_ble_eq_true rfl)) dX3_answersOf_33 ⟨Nat.le_refl _, Nat.le_refl _⟩) hA hP hS (fun H locs hP hS hbz_q9 => ?_)
        obtain ⟨q10, htq10, hf⟩ := bd_e hf
        have jnq10 : ∀ (C : Nat → va_E) (H : Heap) (locs : List Loc) (ls : Array Slot), va_P D vwCl (wd 109 ad C) H → va_S (An s.heap.size) s.heap H locs → C 5 = .inr (7, [.ref (ad 6), .ref (ad 7), .ref (ad 8), .ref (ad 9), .ref (ad 10), .ref (ad 11), .ref (ad 12), .ref (ad 13), .ref (ad 14), .ref (ad 15), .ref (ad 16), .ref (ad 17), .ref (ad 18), .int t_there, .int t_lift, .int t_none]) → C 6 = aI g 12 t_down → C 8 = aI g 12 t_pac → C 19 = .inr (9, [.ref (ad 5), .ref (ad 20), .int w_src]) → C 20 = aI g 12 w_over → C 81 = .inr (3, [.ref (ad 5), .ref (ad 19), .ref (ad 82), .ref (ad 83)]) → lv_has ls 8 [(0, .ref (ad 81)), (1, .int p0), (2, .int p1), (3, .int p2), (4, .int p3), (5, .int x1), (6, .int x2), (7, .int q6)] → W p l e (headSpec wsX3_answersOf rmX3_answersOf).room s m args below meth c H locs 0 0 QQ (F0 m 47 ls [.int q10, .int x1]) := by
          intro C H locs ls hP hS h5 h6 h8 h19 h20 h81 hl
          refine lv_ior hx hb dX3_answersOf_47 ?_
          obtain ⟨x11, ex11, hf⟩ := lt_e hf
          refine tp_i ex11 ?_
          refine lv_istore (lv' := [(5, .int x11), (0, .ref (ad 81)), (1, .int p0), (2, .int p1), (3, .int p2), (4, .int p3), (6, .int x2), (7, .int q6)]) hx hb dX3_answersOf_48 hl (by decide) rfl (fun ls hl => ?_)
          refine lv_aload_n hx hb dX3_answersOf_50 rfl (lv_at hl 1 rfl) ?_
          refine r_get (own := RX3) (T := TX3) (n := 4) (ci := 3) (v := .ref (ad 19)) hx hb hts nX3 hown hK hP (by decide) h81 rfl 1 (by decide) k0 rfl dX3_answersOf_51 ?_
          refine lv_iload_n hx hb dX3_answersOf_54 rfl (lv_at hl 2 rfl) ?_
          refine lv_iload hx hb dX3_answersOf_55 (lv_at hl 7 rfl) ?_
          obtain ⟨q12, hq12, hf⟩ := bd_e hf
          refine k_iR (va_runV (C := RX9) (As := [.int p0, .int q6]) (rest := []) ⟨hx, hb, hml, hown, hts⟩ (c_X9_minutesBetween (l := l) (sz := H.size) (p0 := p0) (p1 := q6) h5 h6 h8 h19 hq12) (cwV 2 hts gX3_answersOf_X9_minutesBetween rfl rfl rfl (by decide +kernel) ⟨Nat.le_of_ble_eq_true rfl, Nat.le_of_ble_eq_true rfl⟩) (preV_of hK hP (by decide) h19 rfl) rfl rfl hl.1 rfl (lv_room (Nat.le_of_ble_eq_true rfl)) dX3_answersOf_57 ⟨Nat.le_refl _, Nat.le_refl _⟩) hA hP hS (fun H locs hP hS hbz_q12 => ?_)
          refine lv_iload hx hb dX3_answersOf_60 (lv_at hl 5 rfl) ?_
          refine lv_icmp_gt (tgt := 68) hx hb dX3_answersOf_62 (by decide) (fun c13 => ?_) (fun c13 => ?_)
          · have hf := it_e c13 hf
            obtain ⟨x14, ex14, hf⟩ := lt_e hf
            refine lv_iinc (v := x14) (lv' := [(6, .int x14), (5, .int x11), (0, .ref (ad 81)), (1, .int p0), (2, .int p1), (3, .int p2), (4, .int p3), (7, .int q6)]) hx hb dX3_answersOf_68 hl (k := 6) rfl (by rw [ex14]; rfl) (by decide) rfl (fun ls hl => ?_)
            refine lv_goto (tgt := 6) hx hb dX3_answersOf_71 (by decide) ?_
            exact ih x11 x14 C H locs ls hP hS h5 h6 h8 h19 h20 h81 (lv_sub hl [2, 3, 4, 5, 6, 1, 0] rfl) hf
          · have hf := ie_e c13 hf
            refine lv_goto (tgt := 74) hx hb dX3_answersOf_65 (by decide) ?_
            exact hko x11 x2 C H locs ls hP hS h5 h6 h8 h19 h20 h81 (lv_sub hl [1, 2, 3, 4, 5, 0, 6] rfl) hf
        clear hf
        have hf := htq10
        refine lv_if_eq (tgt := 46) hx hb dX3_answersOf_36 (by decide) (fun c15 => ?_) (fun c15 => ?_)
        · have hf := it_e c15 hf
          refine lv_iconst (v := 0) hx hb dX3_answersOf_46 (by decide) ?_
          obtain rfl := Option.some.inj hf
          exact jnq10 C H locs ls hP hS h5 h6 h8 h19 h20 h81 (lv_sub hl [1, 2, 3, 4, 5, 6, 7, 0] rfl)
        · have hf := ie_e c15 hf
          refine lv_iconst (v := 1) hx hb dX3_answersOf_39 (by decide) ?_
          refine lv_iload hx hb dX3_answersOf_40 (lv_at hl 7 rfl) ?_
          refine lv_ishl hx hb dX3_answersOf_42 ?_
          refine lv_goto (tgt := 47) hx hb dX3_answersOf_43 (by decide) ?_
          obtain rfl := Option.some.inj hf
          exact jnq10 C H locs ls hP hS h5 h6 h8 h19 h20 h81 (lv_sub hl [1, 2, 3, 4, 5, 6, 7, 0] rfl)
  refine key6 _ (fun x3 x4 C H locs ls hP hS h5 h6 h8 h19 h20 h81 hl hf => ?_) FU 0 0 C H locs ls hP hS h5 h6 h8 h19 h20 h81 (lv_sub hl [2, 3, 4, 5, 6, 1, 0] rfl) hf
  refine lv_iload hx hb dX3_answersOf_74 (lv_at hl 5 rfl) ?_
  obtain rfl := Option.some.inj hf
  rw [← hQ]
  exact e_iR hx hb hr rfl (tP_i _) hS hlocks dX3_answersOf_76

def LX3_answerAll_6 (p0 : Int32) (p1 : Int32) (p2 : Int32) (t_down : Nat → Int32) (t_pac : Nat → Int32) (w_src : Int32) (w_over : Nat → Int32) (ko : Int32 → Int32 → (Nat → Int32) → Option (Int32 × (Nat → Int32))) : Nat → Int32 → Int32 → (Nat → Int32) → Option (Int32 × (Nat → Int32))
  | 0, _, _, _ => none
  | n + 1, x1, x2, f3 =>
    if 12 ≤ x2 then
      ko x1 x2 f3
    else
      (f_X10_has w_src x2).bind fun q8 =>
      (if q8 = 0 then
        some (x1, f3)
      else
        (f_X3_answersOf x2 p0 p1 p2 t_down t_pac w_over).bind fun q12 =>
        wi f3 12 (x1) (q12) fun f13 =>
        lt (x1 + 1 : Int32) fun x15 =>
        some (x15, f13) : Option (Int32 × (Nat → Int32))).bind fun q9 =>
      lt (x2 + 1 : Int32) fun x10 =>
      LX3_answerAll_6 p0 p1 p2 t_down t_pac w_src w_over ko n q9.1 x10 q9.2
theorem LX3_answerAll_6_z (p0 : Int32) (p1 : Int32) (p2 : Int32) (t_down : Nat → Int32) (t_pac : Nat → Int32) (w_src : Int32) (w_over : Nat → Int32) (ko : Int32 → Int32 → (Nat → Int32) → Option (Int32 × (Nat → Int32))) (x1 : Int32) (x2 : Int32) (f3 : Nat → Int32) : LX3_answerAll_6 p0 p1 p2 t_down t_pac w_src w_over ko 0 x1 x2 f3 = none := rfl
theorem LX3_answerAll_6_s (p0 : Int32) (p1 : Int32) (p2 : Int32) (t_down : Nat → Int32) (t_pac : Nat → Int32) (w_src : Int32) (w_over : Nat → Int32) (ko : Int32 → Int32 → (Nat → Int32) → Option (Int32 × (Nat → Int32))) (n : Nat) (x1 : Int32) (x2 : Int32) (f3 : Nat → Int32) : LX3_answerAll_6 p0 p1 p2 t_down t_pac w_src w_over ko (n + 1) x1 x2 f3 =
    if 12 ≤ x2 then
      ko x1 x2 f3
    else
      (f_X10_has w_src x2).bind fun q8 =>
      (if q8 = 0 then
        some (x1, f3)
      else
        (f_X3_answersOf x2 p0 p1 p2 t_down t_pac w_over).bind fun q12 =>
        wi f3 12 (x1) (q12) fun f13 =>
        lt (x1 + 1 : Int32) fun x15 =>
        some (x15, f13) : Option (Int32 × (Nat → Int32))).bind fun q9 =>
      lt (x2 + 1 : Int32) fun x10 =>
      LX3_answerAll_6 p0 p1 p2 t_down t_pac w_src w_over ko n q9.1 x10 q9.2 := rfl
def f_X3_answerAll (p0 : Int32) (p1 : Int32) (p2 : Int32) (t_down : Nat → Int32) (t_pac : Nat → Int32) (w_src : Int32) (w_over : Nat → Int32) (l_kinds : Nat → Int32) : Option (Int32 × (Nat → Int32)) :=
  LX3_answerAll_6 p0 p1 p2 t_down t_pac w_src w_over (fun x4 x5 f6 =>
    some (x4, f6)) FU 0 0 l_kinds
abbrev rmX3_answerAll : Room := { frames := 2, cells := 0, slots := 0, locals := 53 }
set_option maxHeartbeats 4000000 in
set_option maxRecDepth 100000 in
theorem c_X3_answerAll {l : Launch} {D : va_G} {g : Nat → ClassId} {ad : Nat → Nat} {C : Nat → va_E} {sz : Nat} {t_there : Int32} {t_lift : Int32} {t_none : Int32} {t_down : Nat → Int32} {t_pac : Nat → Int32} {w_src : Int32} {w_over : Nat → Int32} {l_kinds : Nat → Int32} {p0 : Int32} {p1 : Int32} {p2 : Int32} {rr : Int32 × (Nat → Int32)} (hI : Inj 109 ad) (h5 : C 5 = .inr (7, [.ref (ad 6), .ref (ad 7), .ref (ad 8), .ref (ad 9), .ref (ad 10), .ref (ad 11), .ref (ad 12), .ref (ad 13), .ref (ad 14), .ref (ad 15), .ref (ad 16), .ref (ad 17), .ref (ad 18), .int t_there, .int t_lift, .int t_none])) (h6 : C 6 = aI g 12 t_down) (h8 : C 8 = aI g 12 t_pac) (h19 : C 19 = .inr (9, [.ref (ad 5), .ref (ad 20), .int w_src])) (h20 : C 20 = aI g 12 w_over) (h81 : C 81 = .inr (3, [.ref (ad 5), .ref (ad 19), .ref (ad 82), .ref (ad 83)])) (h82 : C 82 = aI g 12 l_kinds) (hf : f_X3_answerAll p0 p1 p2 t_down t_pac w_src w_over l_kinds = some rr) : Met l yX3_answerAll wsX3_answerAll rmX3_answerAll (PcW D g 109 ad C sz [.ref (ad 81), .int p0, .int p1, .int p2]) (QiW D 109 ad sz tP rr.1 (fun C' => (∀ i : Nat, i ≠ 82 → C' i = C i) ∧ (C' 82 = aI g 12 rr.2))) 0 0 (Aw 109 ad sz) := by
  refine Met.ofW (cc := cX3_answerAll) (maxL := 6) (ret := (some .int)) (by decide) rfl ?_
  intro p e s m args below meth c s₁ B hml hv
  obtain ⟨hav, hsz, hK, hP⟩ := hv
  subst hsz
  have hx := B.exec
  have hb := B.bytes
  have hr := B.returns
  have hts := atoms_spec (ws := wsX3_answerAll) B.pre
  have hown : s.vm.findClass RX3 = some m.cls := findClass_of_methodNamed B.named
  have hlocks := B.notSynchronized
  generalize hQ : MQ below (QiW D 109 ad s.heap.size tP rr.1 (fun C' => (∀ i : Nat, i ≠ 82 → C' i = C i) ∧ (C' 82 = aI g 12 rr.2))) args s 0 0 (Aw 109 ad s.heap.size) = QQ
  have hS : va_S (Aw 109 ad s.heap.size) s.heap s.heap [] := va_S.rf
  have hA : ∀ q, s.heap.size ≤ q → (Aw 109 ad s.heap.size) q := fun q h => Or.inr h
  have hAd : ∀ j : Nat, j < 109 → (Aw 109 ad s.heap.size) (ad j) := fun j h => Or.inl ⟨j, h, rfl⟩
  obtain ⟨C0, hC0⟩ : ∃ C0 : Nat → va_E, C0 = C := ⟨_, rfl⟩
  have hag : ∀ i : Nat, i ≠ 82 → C i = C0 i := fun i _ => by rw [hC0]
  rw [← hC0] at hQ
  have k0 := hts (.fieldLink RX3 22 "UpDrain$Lids" "ways" "LUpDrain$Ways;") (List.mem_of_getElem? (i := 1) rfl)
  have nX3 : ∀ w ∈ u_ws RX3 TX3 4, w ∈ wsX3_answerAll := fun _ h => List.mem_cons_of_mem _ (List.mem_append_left _ (List.mem_append_left _ (List.mem_append_right _ h)))
  have k2 := nf_54 (A := args) hK
  have nX9 : ∀ w ∈ u_ws RX9 TX9 3, w ∈ wsX3_answerAll := fun _ h => List.mem_cons_of_mem _ (List.mem_append_left _ (List.mem_append_right _ h))
  have k4 := nm_9 hK
  have k5 := hts (.initialized RX10) (List.mem_of_getElem? (i := 4) rfl)
  have k6 := hts (.static yX10_has) (List.mem_of_getElem? (i := 3) rfl)
  have k7 := hts (.fieldLink RX3 9 "UpDrain$Lids" "kinds" "[I") (List.mem_of_getElem? (i := 2) rfl)
  have hE := lg_entry_eq m [.ref (ad 81), .int p0, .int p1, .int p2] 6
  rw [← hav] at hE
  rw [hE]
  have hl := lv_entry [.ref (ad 81), .int p0, .int p1, .int p2] (n := 6) (Nat.le_of_ble_eq_true rfl)
  generalize (lg_sl [.ref (ad 81), .int p0, .int p1, .int p2] ++ List.replicate (6 - (lg_sl [.ref (ad 81), .int p0, .int p1, .int p2]).length) Slot.unset).toArray = ls at hl ⊢
  have hl : lv_has ls 6 [(0, .ref (ad 81)), (1, .int p0), (2, .int p1), (3, .int p2)] := hl
  clear hE
  unfold f_X3_answerAll at hf
  suffices hgo : ∀ (H : Heap) (locs : List Loc), va_P D vwCl (wd 109 ad C) H → va_S (Aw 109 ad s.heap.size) s.heap H locs → W p l e (headSpec wsX3_answerAll rmX3_answerAll).room s m args below meth c H locs 0 0 QQ (F0 m 0 ls []) from hgo s.heap [] hP hS
  clear hS hP
  intro H locs hP hS
  refine lv_iconst (v := 0) hx hb dX3_answerAll_0 (by decide) ?_
  refine lv_istore (lv' := [(4, .int 0), (0, .ref (ad 81)), (1, .int p0), (2, .int p1), (3, .int p2)]) hx hb dX3_answerAll_1 hl (by decide) rfl (fun ls hl => ?_)
  refine lv_iconst (v := 0) hx hb dX3_answerAll_3 (by decide) ?_
  refine lv_istore (lv' := [(5, .int 0), (4, .int 0), (0, .ref (ad 81)), (1, .int p0), (2, .int p1), (3, .int p2)]) hx hb dX3_answerAll_4 hl (by decide) rfl (fun ls hl => ?_)
  have key6 : ∀ (ko : Int32 → Int32 → (Nat → Int32) → Option (Int32 × (Nat → Int32))), (∀ (x4 : Int32) (x5 : Int32) (f6 : Nat → Int32) (C : Nat → va_E) (H : Heap) (locs : List Loc) (ls : Array Slot), va_P D vwCl (wd 109 ad C) H → va_S (Aw 109 ad s.heap.size) s.heap H locs → (∀ i : Nat, i ≠ 82 → C i = C0 i) → C 5 = .inr (7, [.ref (ad 6), .ref (ad 7), .ref (ad 8), .ref (ad 9), .ref (ad 10), .ref (ad 11), .ref (ad 12), .ref (ad 13), .ref (ad 14), .ref (ad 15), .ref (ad 16), .ref (ad 17), .ref (ad 18), .int t_there, .int t_lift, .int t_none]) → C 6 = aI g 12 t_down → C 8 = aI g 12 t_pac → C 19 = .inr (9, [.ref (ad 5), .ref (ad 20), .int w_src]) → C 20 = aI g 12 w_over → C 81 = .inr (3, [.ref (ad 5), .ref (ad 19), .ref (ad 82), .ref (ad 83)]) → C 82 = aI g 12 f6 → lv_has ls 6 [(0, .ref (ad 81)), (1, .int p0), (2, .int p1), (3, .int p2), (4, .int x4), (5, .int x5)] → ko x4 x5 f6 = some rr → W p l e (headSpec wsX3_answerAll rmX3_answerAll).room s m args below meth c H locs 0 0 QQ (F0 m 53 ls [])) → ∀ (n : Nat) (x1 : Int32) (x2 : Int32) (f3 : Nat → Int32) (C : Nat → va_E) (H : Heap) (locs : List Loc) (ls : Array Slot), va_P D vwCl (wd 109 ad C) H → va_S (Aw 109 ad s.heap.size) s.heap H locs → (∀ i : Nat, i ≠ 82 → C i = C0 i) → C 5 = .inr (7, [.ref (ad 6), .ref (ad 7), .ref (ad 8), .ref (ad 9), .ref (ad 10), .ref (ad 11), .ref (ad 12), .ref (ad 13), .ref (ad 14), .ref (ad 15), .ref (ad 16), .ref (ad 17), .ref (ad 18), .int t_there, .int t_lift, .int t_none]) → C 6 = aI g 12 t_down → C 8 = aI g 12 t_pac → C 19 = .inr (9, [.ref (ad 5), .ref (ad 20), .int w_src]) → C 20 = aI g 12 w_over → C 81 = .inr (3, [.ref (ad 5), .ref (ad 19), .ref (ad 82), .ref (ad 83)]) → C 82 = aI g 12 f3 → lv_has ls 6 [(0, .ref (ad 81)), (1, .int p0), (2, .int p1), (3, .int p2), (4, .int x1), (5, .int x2)] → LX3_answerAll_6 p0 p1 p2 t_down t_pac w_src w_over ko n x1 x2 f3 = some rr → W p l e (headSpec wsX3_answerAll rmX3_answerAll).room s m args below meth c H locs 0 0 QQ (F0 m 6 ls []) := by
    intro ko hko n
    induction n with
    | zero =>
      intro x1 x2 f3 C H locs ls hP hS hag h5 h6 h8 h19 h20 h81 h82 hl hf
      rw [LX3_answerAll_6_z] at hf
      cases hf
    | succ n ih =>
      intro x1 x2 f3 C H locs ls hP hS hag h5 h6 h8 h19 h20 h81 h82 hl hf
      rw [LX3_answerAll_6_s] at hf
      refine lv_iload hx hb dX3_answerAll_6 (lv_at hl 5 rfl) ?_
      refine lv_bipush (v := 12) hx hb dX3_answerAll_8 (by decide) ?_
      refine lv_icmp_ge (tgt := 53) hx hb dX3_answerAll_10 (by decide) (fun c7 => ?_) (fun c7 => ?_)
      · have hf := it_e c7 hf
        exact hko x1 x2 f3 C H locs ls hP hS hag h5 h6 h8 h19 h20 h81 h82 (lv_sub hl [0, 1, 2, 3, 4, 5] rfl) hf
      · have hf := ie_e c7 hf
        refine lv_aload_n hx hb dX3_answerAll_13 rfl (lv_at hl 0 rfl) ?_
        refine r_get (own := RX3) (T := TX3) (n := 4) (ci := 3) (v := .ref (ad 19)) hx hb hts nX3 hown hK hP (by decide) h81 rfl 1 (by decide) k0 rfl dX3_answerAll_14 ?_
        refine r_getN (own := RX3) (T := TX9) (n := 3) (ci := 9) (v := .int w_src) hx hb hts nX9 hown hK hP (by decide) h19 rfl 2 (by decide) k2 rfl dX3_answerAll_17 ?_
        refine lv_iload hx hb dX3_answerAll_20 (lv_at hl 5 rfl) ?_
        obtain ⟨q8, hq8, hf⟩ := bd_e hf
        refine k_iR (va_runSN (As := [.int w_src, .int x2]) (rest := []) ⟨hx, hb, hml, hown, hts⟩ (c_X10_has (l := l) (sz := H.size) (p0 := w_src) (p1 := x2) hq8) ⟨va_cnB 2 hts gX3_answerAll_X10_has_n35 rfl rfl rfl k4 k5 (by decide +kernel) ⟨Nat.le_of_ble_eq_true rfl, Nat.le_of_ble_eq_true rfl⟩, k6, trivial⟩ preS0 rfl rfl hl.1 rfl (lv_room (Nat.le_of_ble_eq_true rfl)) dX3_answerAll_22 ⟨Nat.le_refl _, Nat.le_refl _⟩) hA hP hS (fun H locs hP hS hbz_q8 => ?_)
        obtain ⟨q9, htq9, hf⟩ := bd_e hf
        have jnq9 : ∀ (C : Nat → va_E) (H : Heap) (locs : List Loc) (ls : Array Slot), va_P D vwCl (wd 109 ad C) H → va_S (Aw 109 ad s.heap.size) s.heap H locs → (∀ i : Nat, i ≠ 82 → C i = C0 i) → C 5 = .inr (7, [.ref (ad 6), .ref (ad 7), .ref (ad 8), .ref (ad 9), .ref (ad 10), .ref (ad 11), .ref (ad 12), .ref (ad 13), .ref (ad 14), .ref (ad 15), .ref (ad 16), .ref (ad 17), .ref (ad 18), .int t_there, .int t_lift, .int t_none]) → C 6 = aI g 12 t_down → C 8 = aI g 12 t_pac → C 19 = .inr (9, [.ref (ad 5), .ref (ad 20), .int w_src]) → C 20 = aI g 12 w_over → C 81 = .inr (3, [.ref (ad 5), .ref (ad 19), .ref (ad 82), .ref (ad 83)]) → C 82 = aI g 12 q9.2 → lv_has ls 6 [(0, .ref (ad 81)), (1, .int p0), (2, .int p1), (3, .int p2), (4, .int q9.1), (5, .int x2)] → W p l e (headSpec wsX3_answerAll rmX3_answerAll).room s m args below meth c H locs 0 0 QQ (F0 m 47 ls []) := by
          intro C H locs ls hP hS hag h5 h6 h8 h19 h20 h81 h82 hl
          obtain ⟨x10, ex10, hf⟩ := lt_e hf
          refine lv_iinc (v := x10) (lv' := [(5, .int x10), (0, .ref (ad 81)), (1, .int p0), (2, .int p1), (3, .int p2), (4, .int q9.1)]) hx hb dX3_answerAll_47 hl (k := 5) rfl (by rw [ex10]; rfl) (by decide) rfl (fun ls hl => ?_)
          refine lv_goto (tgt := 6) hx hb dX3_answerAll_50 (by decide) ?_
          exact ih q9.1 x10 q9.2 C H locs ls hP hS hag h5 h6 h8 h19 h20 h81 h82 (lv_sub hl [1, 2, 3, 4, 5, 0] rfl) hf
        clear hf
        have hf := htq9
        refine lv_if_eq (tgt := 47) hx hb dX3_answerAll_25 (by decide) (fun c11 => ?_) (fun c11 => ?_)
        · have hf := it_e c11 hf
          obtain rfl := Option.some.inj hf
          exact jnq9 C H locs ls hP hS hag h5 h6 h8 h19 h20 h81 h82 (lv_sub hl [0, 1, 2, 3, 4, 5] rfl)
        · have hf := ie_e c11 hf
          refine lv_aload_n hx hb dX3_answerAll_28 rfl (lv_at hl 0 rfl) ?_
          refine r_get (own := RX3) (T := TX3) (n := 4) (ci := 3) (v := .ref (ad 82)) hx hb hts nX3 hown hK hP (by decide) h81 rfl 2 (by decide) k7 rfl dX3_answerAll_29 ?_
          refine lv_iload hx hb dX3_answerAll_32 (lv_at hl 4 rfl) ?_
          refine lv_aload_n hx hb dX3_answerAll_34 rfl (lv_at hl 0 rfl) ?_
          refine lv_iload hx hb dX3_answerAll_35 (lv_at hl 5 rfl) ?_
          refine lv_iload_n hx hb dX3_answerAll_37 rfl (lv_at hl 1 rfl) ?_
          refine lv_iload_n hx hb dX3_answerAll_38 rfl (lv_at hl 2 rfl) ?_
          refine lv_iload_n hx hb dX3_answerAll_39 rfl (lv_at hl 3 rfl) ?_
          obtain ⟨q12, hq12, hf⟩ := bd_e hf
          refine k_iR (va_runV (C := RX3) (As := [.int x2, .int p0, .int p1, .int p2]) (rest := [.int x1, .ref (ad 82)]) ⟨hx, hb, hml, hown, hts⟩ (c_X3_answersOf (l := l) (sz := H.size) (p0 := x2) (p1 := p0) (p2 := p1) (p3 := p2) h5 h6 h8 h19 h20 h81 hq12) (cwV 4 hts gX3_answerAll_X3_answersOf rfl rfl rfl (by decide +kernel) ⟨Nat.le_of_ble_eq_true rfl, Nat.le_of_ble_eq_true rfl⟩) (preV_of hK hP (by decide) h81 rfl) rfl rfl hl.1 rfl (lv_room (Nat.le_of_ble_eq_true rfl)) dX3_answerAll_40 ⟨Nat.le_refl _, Nat.le_refl _⟩) hA hP hS (fun H locs hP hS hbz_q12 => ?_)
          obtain ⟨i14, f13, ef13, hf⟩ := wi_e hf
          refine r_iast hx hb hK hI hAd hP hS (by decide) h82 i14 dX3_answerAll_43 ef13 (fun C H locs hP hS he hn => ?_)
          have hag : ∀ i : Nat, i ≠ 82 → C i = C0 i := fun i h => (he i (by omega)).trans (hag i h)
          have h5 := (he 5 (by decide)).trans h5
          have h6 := (he 6 (by decide)).trans h6
          have h8 := (he 8 (by decide)).trans h8
          have h19 := (he 19 (by decide)).trans h19
          have h20 := (he 20 (by decide)).trans h20
          have h81 := (he 81 (by decide)).trans h81
          have h82 : C 82 = aI g 12 f13 := hn
          obtain ⟨x15, ex15, hf⟩ := lt_e hf
          refine lv_iinc (v := x15) (lv' := [(4, .int x15), (0, .ref (ad 81)), (1, .int p0), (2, .int p1), (3, .int p2), (5, .int x2)]) hx hb dX3_answerAll_44 hl (k := 4) rfl (by rw [ex15]; rfl) (by decide) rfl (fun ls hl => ?_)
          obtain rfl := Option.some.inj hf
          exact jnq9 C H locs ls hP hS hag h5 h6 h8 h19 h20 h81 h82 (lv_sub hl [1, 2, 3, 4, 0, 5] rfl)
  refine key6 _ (fun x4 x5 f6 C H locs ls hP hS hag h5 h6 h8 h19 h20 h81 h82 hl hf => ?_) FU 0 0 l_kinds C H locs ls hP hS hag h5 h6 h8 h19 h20 h81 h82 (lv_sub hl [2, 3, 4, 5, 1, 0] rfl) hf
  refine lv_iload hx hb dX3_answerAll_53 (lv_at hl 4 rfl) ?_
  obtain rfl := Option.some.inj hf
  rw [← hQ]
  exact e_iW hx hb hr rfl (tP_i _) hP hS ⟨hag, h82⟩ hlocks dX3_answerAll_55

def LX3_likeAhead_5 (p0 : Int32) (p1 : Int32) (l_kinds : Nat → Int32) (ko : Int32 → Int32 → Option (Int32)) : Nat → Int32 → Int32 → Option (Int32)
  | 0, _, _ => none
  | n + 1, x1, x2 =>
    if p1 ≤ x2 then
      ko x1 x2
    else
      ri l_kinds 12 (x2) fun x6 =>
      ri l_kinds 12 (p0) fun x8 =>
      (if x6 = x8 then
        some (1)
      else
        some (0) : Option (Int32)).bind fun q10 =>
      lt ((x1 + q10) : Int32) fun x11 =>
      lt (x2 + 1 : Int32) fun x12 =>
      LX3_likeAhead_5 p0 p1 l_kinds ko n x11 x12
theorem LX3_likeAhead_5_z (p0 : Int32) (p1 : Int32) (l_kinds : Nat → Int32) (ko : Int32 → Int32 → Option (Int32)) (x1 : Int32) (x2 : Int32) : LX3_likeAhead_5 p0 p1 l_kinds ko 0 x1 x2 = none := rfl
theorem LX3_likeAhead_5_s (p0 : Int32) (p1 : Int32) (l_kinds : Nat → Int32) (ko : Int32 → Int32 → Option (Int32)) (n : Nat) (x1 : Int32) (x2 : Int32) : LX3_likeAhead_5 p0 p1 l_kinds ko (n + 1) x1 x2 =
    if p1 ≤ x2 then
      ko x1 x2
    else
      ri l_kinds 12 (x2) fun x6 =>
      ri l_kinds 12 (p0) fun x8 =>
      (if x6 = x8 then
        some (1)
      else
        some (0) : Option (Int32)).bind fun q10 =>
      lt ((x1 + q10) : Int32) fun x11 =>
      lt (x2 + 1 : Int32) fun x12 =>
      LX3_likeAhead_5 p0 p1 l_kinds ko n x11 x12 := rfl
def f_X3_likeAhead (p0 : Int32) (p1 : Int32) (l_kinds : Nat → Int32) : Option (Int32) :=
  LX3_likeAhead_5 p0 p1 l_kinds (fun x3 x4 =>
    some (x3)) FU 0 0
abbrev rmX3_likeAhead : Room := { frames := 0, cells := 0, slots := 0, locals := 0 }
set_option maxHeartbeats 4000000 in
set_option maxRecDepth 100000 in
theorem c_X3_likeAhead {l : Launch} {D : va_G} {g : Nat → ClassId} {ad : Nat → Nat} {C : Nat → va_E} {sz : Nat} {l_kinds : Nat → Int32} {p0 : Int32} {p1 : Int32} {rr : Int32} (h81 : C 81 = .inr (3, [.ref (ad 5), .ref (ad 19), .ref (ad 82), .ref (ad 83)])) (h82 : C 82 = aI g 12 l_kinds) (hf : f_X3_likeAhead p0 p1 l_kinds = some rr) : Met l yX3_likeAhead wsX3_likeAhead rmX3_likeAhead (PcW D g 109 ad C sz [.ref (ad 81), .int p0, .int p1]) (QiR sz tP rr) 0 0 (An sz) := by
  refine Met.ofW (cc := cX3_likeAhead) (maxL := 5) (ret := (some .int)) (by decide) rfl ?_
  intro p e s m args below meth c s₁ B hml hv
  obtain ⟨hav, hsz, hK, hP⟩ := hv
  subst hsz
  have hx := B.exec
  have hb := B.bytes
  have hr := B.returns
  have hts := atoms_spec (ws := wsX3_likeAhead) B.pre
  have hown : s.vm.findClass RX3 = some m.cls := findClass_of_methodNamed B.named
  have hlocks := B.notSynchronized
  generalize hQ : MQ below (QiR s.heap.size tP rr) args s 0 0 (An s.heap.size) = QQ
  have hS : va_S (An s.heap.size) s.heap s.heap [] := va_S.rf
  have hA : ∀ q, s.heap.size ≤ q → (An s.heap.size) q := fun q h => h
  have k0 := hts (.fieldLink RX3 9 "UpDrain$Lids" "kinds" "[I") (List.mem_of_getElem? (i := 1) rfl)
  have nX3 : ∀ w ∈ u_ws RX3 TX3 4, w ∈ wsX3_likeAhead := fun _ h => List.mem_cons_of_mem _ (List.mem_append_right _ h)
  have hE := lg_entry_eq m [.ref (ad 81), .int p0, .int p1] 5
  rw [← hav] at hE
  rw [hE]
  have hl := lv_entry [.ref (ad 81), .int p0, .int p1] (n := 5) (Nat.le_of_ble_eq_true rfl)
  generalize (lg_sl [.ref (ad 81), .int p0, .int p1] ++ List.replicate (5 - (lg_sl [.ref (ad 81), .int p0, .int p1]).length) Slot.unset).toArray = ls at hl ⊢
  have hl : lv_has ls 5 [(0, .ref (ad 81)), (1, .int p0), (2, .int p1)] := hl
  clear hE
  unfold f_X3_likeAhead at hf
  suffices hgo : ∀ (H : Heap) (locs : List Loc), va_P D vwCl (wd 109 ad C) H → va_S (An s.heap.size) s.heap H locs → W p l e (headSpec wsX3_likeAhead rmX3_likeAhead).room s m args below meth c H locs 0 0 QQ (F0 m 0 ls []) from hgo s.heap [] hP hS
  clear hS hP
  intro H locs hP hS
  refine lv_iconst (v := 0) hx hb dX3_likeAhead_0 (by decide) ?_
  refine lv_istore_n (lv' := [(3, .int 0), (0, .ref (ad 81)), (1, .int p0), (2, .int p1)]) hx hb dX3_likeAhead_1 rfl hl (by decide) rfl (fun ls hl => ?_)
  refine lv_iconst (v := 0) hx hb dX3_likeAhead_2 (by decide) ?_
  refine lv_istore (lv' := [(4, .int 0), (3, .int 0), (0, .ref (ad 81)), (1, .int p0), (2, .int p1)]) hx hb dX3_likeAhead_3 hl (by decide) rfl (fun ls hl => ?_)
  have key5 : ∀ (ko : Int32 → Int32 → Option (Int32)), (∀ (x3 : Int32) (x4 : Int32) (C : Nat → va_E) (H : Heap) (locs : List Loc) (ls : Array Slot), va_P D vwCl (wd 109 ad C) H → va_S (An s.heap.size) s.heap H locs → C 81 = .inr (3, [.ref (ad 5), .ref (ad 19), .ref (ad 82), .ref (ad 83)]) → C 82 = aI g 12 l_kinds → lv_has ls 5 [(0, .ref (ad 81)), (1, .int p0), (2, .int p1), (3, .int x3), (4, .int x4)] → ko x3 x4 = some rr → W p l e (headSpec wsX3_likeAhead rmX3_likeAhead).room s m args below meth c H locs 0 0 QQ (F0 m 41 ls [])) → ∀ (n : Nat) (x1 : Int32) (x2 : Int32) (C : Nat → va_E) (H : Heap) (locs : List Loc) (ls : Array Slot), va_P D vwCl (wd 109 ad C) H → va_S (An s.heap.size) s.heap H locs → C 81 = .inr (3, [.ref (ad 5), .ref (ad 19), .ref (ad 82), .ref (ad 83)]) → C 82 = aI g 12 l_kinds → lv_has ls 5 [(0, .ref (ad 81)), (1, .int p0), (2, .int p1), (3, .int x1), (4, .int x2)] → LX3_likeAhead_5 p0 p1 l_kinds ko n x1 x2 = some rr → W p l e (headSpec wsX3_likeAhead rmX3_likeAhead).room s m args below meth c H locs 0 0 QQ (F0 m 5 ls []) := by
    intro ko hko n
    induction n with
    | zero =>
      intro x1 x2 C H locs ls hP hS h81 h82 hl hf
      rw [LX3_likeAhead_5_z] at hf
      cases hf
    | succ n ih =>
      intro x1 x2 C H locs ls hP hS h81 h82 hl hf
      rw [LX3_likeAhead_5_s] at hf
      refine lv_iload hx hb dX3_likeAhead_5 (lv_at hl 4 rfl) ?_
      refine lv_iload_n hx hb dX3_likeAhead_7 rfl (lv_at hl 2 rfl) ?_
      refine lv_icmp_ge (tgt := 41) hx hb dX3_likeAhead_8 (by decide) (fun c5 => ?_) (fun c5 => ?_)
      · have hf := it_e c5 hf
        exact hko x1 x2 C H locs ls hP hS h81 h82 (lv_sub hl [0, 1, 2, 3, 4] rfl) hf
      · have hf := ie_e c5 hf
        refine lv_iload_n hx hb dX3_likeAhead_11 rfl (lv_at hl 3 rfl) ?_
        refine lv_aload_n hx hb dX3_likeAhead_12 rfl (lv_at hl 0 rfl) ?_
        refine r_get (own := RX3) (T := TX3) (n := 4) (ci := 3) (v := .ref (ad 82)) hx hb hts nX3 hown hK hP (by decide) h81 rfl 2 (by decide) k0 rfl dX3_likeAhead_13 ?_
        refine lv_iload hx hb dX3_likeAhead_16 (lv_at hl 4 rfl) ?_
        obtain ⟨i7, x6, ex6, hf⟩ := ri_e hf
        refine r_iald hx hb hK hP (by decide) h82 i7 dX3_likeAhead_18 ex6 ?_
        refine lv_aload_n hx hb dX3_likeAhead_19 rfl (lv_at hl 0 rfl) ?_
        refine r_get (own := RX3) (T := TX3) (n := 4) (ci := 3) (v := .ref (ad 82)) hx hb hts nX3 hown hK hP (by decide) h81 rfl 2 (by decide) k0 rfl dX3_likeAhead_20 ?_
        refine lv_iload_n hx hb dX3_likeAhead_23 rfl (lv_at hl 1 rfl) ?_
        obtain ⟨i9, x8, ex8, hf⟩ := ri_e hf
        refine r_iald hx hb hK hP (by decide) h82 i9 dX3_likeAhead_24 ex8 ?_
        obtain ⟨q10, htq10, hf⟩ := bd_e hf
        have jnq10 : ∀ (C : Nat → va_E) (H : Heap) (locs : List Loc) (ls : Array Slot), va_P D vwCl (wd 109 ad C) H → va_S (An s.heap.size) s.heap H locs → C 81 = .inr (3, [.ref (ad 5), .ref (ad 19), .ref (ad 82), .ref (ad 83)]) → C 82 = aI g 12 l_kinds → lv_has ls 5 [(0, .ref (ad 81)), (1, .int p0), (2, .int p1), (3, .int x1), (4, .int x2)] → W p l e (headSpec wsX3_likeAhead rmX3_likeAhead).room s m args below meth c H locs 0 0 QQ (F0 m 33 ls [.int q10, .int x1]) := by
          intro C H locs ls hP hS h81 h82 hl
          refine lv_iadd hx hb dX3_likeAhead_33 ?_
          obtain ⟨x11, ex11, hf⟩ := lt_e hf
          refine tp_i ex11 ?_
          refine lv_istore_n (lv' := [(3, .int x11), (0, .ref (ad 81)), (1, .int p0), (2, .int p1), (4, .int x2)]) hx hb dX3_likeAhead_34 rfl hl (by decide) rfl (fun ls hl => ?_)
          obtain ⟨x12, ex12, hf⟩ := lt_e hf
          refine lv_iinc (v := x12) (lv' := [(4, .int x12), (3, .int x11), (0, .ref (ad 81)), (1, .int p0), (2, .int p1)]) hx hb dX3_likeAhead_35 hl (k := 4) rfl (by rw [ex12]; rfl) (by decide) rfl (fun ls hl => ?_)
          refine lv_goto (tgt := 5) hx hb dX3_likeAhead_38 (by decide) ?_
          exact ih x11 x12 C H locs ls hP hS h81 h82 (lv_sub hl [2, 3, 4, 1, 0] rfl) hf
        clear hf
        have hf := htq10
        refine lv_icmp_ne (tgt := 32) hx hb dX3_likeAhead_25 (by decide) (fun c13 => ?_) (fun c13 => ?_)
        · have hf := ie_e c13 hf
          refine lv_iconst (v := 0) hx hb dX3_likeAhead_32 (by decide) ?_
          obtain rfl := Option.some.inj hf
          exact jnq10 C H locs ls hP hS h81 h82 (lv_sub hl [0, 1, 2, 3, 4] rfl)
        · have hf := it_e c13 hf
          refine lv_iconst (v := 1) hx hb dX3_likeAhead_28 (by decide) ?_
          refine lv_goto (tgt := 33) hx hb dX3_likeAhead_29 (by decide) ?_
          obtain rfl := Option.some.inj hf
          exact jnq10 C H locs ls hP hS h81 h82 (lv_sub hl [0, 1, 2, 3, 4] rfl)
  refine key5 _ (fun x3 x4 C H locs ls hP hS h81 h82 hl hf => ?_) FU 0 0 C H locs ls hP hS h81 h82 (lv_sub hl [2, 3, 4, 1, 0] rfl) hf
  refine lv_iload_n hx hb dX3_likeAhead_41 rfl (lv_at hl 3 rfl) ?_
  obtain rfl := Option.some.inj hf
  rw [← hQ]
  exact e_iR hx hb hr rfl (tP_i _) hS hlocks dX3_likeAhead_42

def LX3_kindsIn_15 (q1 : Int32 × (Nat → Int32)) (ko : Int32 → Int32 → Option (Int32 × (Nat → Int32))) : Nat → Int32 → Int32 → Option (Int32 × (Nat → Int32))
  | 0, _, _ => none
  | n + 1, x2, x3 =>
    if q1.1 ≤ x3 then
      ko x2 x3
    else
      (f_X3_likeAhead x3 x3 q1.2).bind fun q7 =>
      (if q7 = 0 then
        some (1)
      else
        some (0) : Option (Int32)).bind fun q8 =>
      lt ((x2 + q8) : Int32) fun x9 =>
      lt (x3 + 1 : Int32) fun x10 =>
      LX3_kindsIn_15 q1 ko n x9 x10
theorem LX3_kindsIn_15_z (q1 : Int32 × (Nat → Int32)) (ko : Int32 → Int32 → Option (Int32 × (Nat → Int32))) (x2 : Int32) (x3 : Int32) : LX3_kindsIn_15 q1 ko 0 x2 x3 = none := rfl
theorem LX3_kindsIn_15_s (q1 : Int32 × (Nat → Int32)) (ko : Int32 → Int32 → Option (Int32 × (Nat → Int32))) (n : Nat) (x2 : Int32) (x3 : Int32) : LX3_kindsIn_15 q1 ko (n + 1) x2 x3 =
    if q1.1 ≤ x3 then
      ko x2 x3
    else
      (f_X3_likeAhead x3 x3 q1.2).bind fun q7 =>
      (if q7 = 0 then
        some (1)
      else
        some (0) : Option (Int32)).bind fun q8 =>
      lt ((x2 + q8) : Int32) fun x9 =>
      lt (x3 + 1 : Int32) fun x10 =>
      LX3_kindsIn_15 q1 ko n x9 x10 := rfl
def f_X3_kindsIn (p0 : Int32) (p1 : Int32) (p2 : Int32) (t_down : Nat → Int32) (t_pac : Nat → Int32) (w_src : Int32) (w_over : Nat → Int32) (l_kinds : Nat → Int32) : Option (Int32 × (Nat → Int32)) :=
  (f_X3_answerAll p0 p1 p2 t_down t_pac w_src w_over l_kinds).bind fun q1 =>
  LX3_kindsIn_15 q1 (fun x4 x5 =>
    some (x4, q1.2)) FU 0 0
abbrev rmX3_kindsIn : Room := { frames := 3, cells := 0, slots := 0, locals := 78 }
set_option maxHeartbeats 4000000 in
set_option maxRecDepth 100000 in
theorem c_X3_kindsIn {l : Launch} {D : va_G} {g : Nat → ClassId} {ad : Nat → Nat} {C : Nat → va_E} {sz : Nat} {t_there : Int32} {t_lift : Int32} {t_none : Int32} {t_down : Nat → Int32} {t_pac : Nat → Int32} {w_src : Int32} {w_over : Nat → Int32} {l_kinds : Nat → Int32} {p0 : Int32} {p1 : Int32} {p2 : Int32} {rr : Int32 × (Nat → Int32)} (hI : Inj 109 ad) (h5 : C 5 = .inr (7, [.ref (ad 6), .ref (ad 7), .ref (ad 8), .ref (ad 9), .ref (ad 10), .ref (ad 11), .ref (ad 12), .ref (ad 13), .ref (ad 14), .ref (ad 15), .ref (ad 16), .ref (ad 17), .ref (ad 18), .int t_there, .int t_lift, .int t_none])) (h6 : C 6 = aI g 12 t_down) (h8 : C 8 = aI g 12 t_pac) (h19 : C 19 = .inr (9, [.ref (ad 5), .ref (ad 20), .int w_src])) (h20 : C 20 = aI g 12 w_over) (h81 : C 81 = .inr (3, [.ref (ad 5), .ref (ad 19), .ref (ad 82), .ref (ad 83)])) (h82 : C 82 = aI g 12 l_kinds) (hf : f_X3_kindsIn p0 p1 p2 t_down t_pac w_src w_over l_kinds = some rr) : Met l yX3_kindsIn wsX3_kindsIn rmX3_kindsIn (PcW D g 109 ad C sz [.ref (ad 81), .int p0, .int p1, .int p2]) (QiW D 109 ad sz tP rr.1 (fun C' => (∀ i : Nat, i ≠ 82 → C' i = C i) ∧ (C' 82 = aI g 12 rr.2))) 0 0 (Aw 109 ad sz) := by
  refine Met.ofW (cc := cX3_kindsIn) (maxL := 7) (ret := (some .int)) (by decide) rfl ?_
  intro p e s m args below meth c s₁ B hml hv
  obtain ⟨hav, hsz, hK, hP⟩ := hv
  subst hsz
  have hx := B.exec
  have hb := B.bytes
  have hr := B.returns
  have hts := atoms_spec (ws := wsX3_kindsIn) B.pre
  have hown : s.vm.findClass RX3 = some m.cls := findClass_of_methodNamed B.named
  have hlocks := B.notSynchronized
  generalize hQ : MQ below (QiW D 109 ad s.heap.size tP rr.1 (fun C' => (∀ i : Nat, i ≠ 82 → C' i = C i) ∧ (C' 82 = aI g 12 rr.2))) args s 0 0 (Aw 109 ad s.heap.size) = QQ
  have hS : va_S (Aw 109 ad s.heap.size) s.heap s.heap [] := va_S.rf
  have hA : ∀ q, s.heap.size ≤ q → (Aw 109 ad s.heap.size) q := fun q h => Or.inr h
  have hAd : ∀ j : Nat, j < 109 → (Aw 109 ad s.heap.size) (ad j) := fun j h => Or.inl ⟨j, h, rfl⟩
  obtain ⟨C0, hC0⟩ : ∃ C0 : Nat → va_E, C0 = C := ⟨_, rfl⟩
  have hag : ∀ i : Nat, i ≠ 82 → C i = C0 i := fun i _ => by rw [hC0]
  rw [← hC0] at hQ
  have hE := lg_entry_eq m [.ref (ad 81), .int p0, .int p1, .int p2] 7
  rw [← hav] at hE
  rw [hE]
  have hl := lv_entry [.ref (ad 81), .int p0, .int p1, .int p2] (n := 7) (Nat.le_of_ble_eq_true rfl)
  generalize (lg_sl [.ref (ad 81), .int p0, .int p1, .int p2] ++ List.replicate (7 - (lg_sl [.ref (ad 81), .int p0, .int p1, .int p2]).length) Slot.unset).toArray = ls at hl ⊢
  have hl : lv_has ls 7 [(0, .ref (ad 81)), (1, .int p0), (2, .int p1), (3, .int p2)] := hl
  clear hE
  unfold f_X3_kindsIn at hf
  suffices hgo : ∀ (H : Heap) (locs : List Loc), va_P D vwCl (wd 109 ad C) H → va_S (Aw 109 ad s.heap.size) s.heap H locs → W p l e (headSpec wsX3_kindsIn rmX3_kindsIn).room s m args below meth c H locs 0 0 QQ (F0 m 0 ls []) from hgo s.heap [] hP hS
  clear hS hP
  intro H locs hP hS
  refine lv_aload_n hx hb dX3_kindsIn_0 rfl (lv_at hl 0 rfl) ?_
  refine lv_iload_n hx hb dX3_kindsIn_1 rfl (lv_at hl 1 rfl) ?_
  refine lv_iload_n hx hb dX3_kindsIn_2 rfl (lv_at hl 2 rfl) ?_
  refine lv_iload_n hx hb dX3_kindsIn_3 rfl (lv_at hl 3 rfl) ?_
  obtain ⟨q1, hq1, hf⟩ := bd_e hf
  refine k_iW (va_runV (C := RX3) (As := [.int p0, .int p1, .int p2]) (rest := []) ⟨hx, hb, hml, hown, hts⟩ (c_X3_answerAll (l := l) (sz := H.size) (p0 := p0) (p1 := p1) (p2 := p2) hI h5 h6 h8 h19 h20 h81 h82 hq1) (cwV 3 hts gX3_kindsIn_X3_answerAll rfl rfl rfl (by decide +kernel) ⟨Nat.le_of_ble_eq_true rfl, Nat.le_of_ble_eq_true rfl⟩) (preV_of hK hP (by decide) h81 rfl) rfl rfl hl.1 rfl (lv_room (Nat.le_of_ble_eq_true rfl)) dX3_kindsIn_4 ⟨Nat.le_refl _, Nat.le_refl _⟩) hA hAd hS (fun C H locs hP hS hpo hbz_q1 => ?_)
  obtain ⟨he, h82⟩ := hpo
  have hag : ∀ i : Nat, i ≠ 82 → C i = C0 i := fun i h => (he i (by omega)).trans (hag i h)
  have h5 := (he 5 (by decide)).trans h5
  have h6 := (he 6 (by decide)).trans h6
  have h8 := (he 8 (by decide)).trans h8
  have h19 := (he 19 (by decide)).trans h19
  have h20 := (he 20 (by decide)).trans h20
  have h81 := (he 81 (by decide)).trans h81
  refine lv_istore (lv' := [(4, .int q1.1), (0, .ref (ad 81)), (1, .int p0), (2, .int p1), (3, .int p2)]) hx hb dX3_kindsIn_7 hl (by decide) rfl (fun ls hl => ?_)
  refine lv_iconst (v := 0) hx hb dX3_kindsIn_9 (by decide) ?_
  refine lv_istore (lv' := [(5, .int 0), (4, .int q1.1), (0, .ref (ad 81)), (1, .int p0), (2, .int p1), (3, .int p2)]) hx hb dX3_kindsIn_10 hl (by decide) rfl (fun ls hl => ?_)
  refine lv_iconst (v := 0) hx hb dX3_kindsIn_12 (by decide) ?_
  refine lv_istore (lv' := [(6, .int 0), (5, .int 0), (4, .int q1.1), (0, .ref (ad 81)), (1, .int p0), (2, .int p1), (3, .int p2)]) hx hb dX3_kindsIn_13 hl (by decide) rfl (fun ls hl => ?_)
  have key15 : ∀ (ko : Int32 → Int32 → Option (Int32 × (Nat → Int32))), (∀ (x4 : Int32) (x5 : Int32) (C : Nat → va_E) (H : Heap) (locs : List Loc) (ls : Array Slot), va_P D vwCl (wd 109 ad C) H → va_S (Aw 109 ad s.heap.size) s.heap H locs → (∀ i : Nat, i ≠ 82 → C i = C0 i) → C 5 = .inr (7, [.ref (ad 6), .ref (ad 7), .ref (ad 8), .ref (ad 9), .ref (ad 10), .ref (ad 11), .ref (ad 12), .ref (ad 13), .ref (ad 14), .ref (ad 15), .ref (ad 16), .ref (ad 17), .ref (ad 18), .int t_there, .int t_lift, .int t_none]) → C 6 = aI g 12 t_down → C 8 = aI g 12 t_pac → C 19 = .inr (9, [.ref (ad 5), .ref (ad 20), .int w_src]) → C 20 = aI g 12 w_over → C 81 = .inr (3, [.ref (ad 5), .ref (ad 19), .ref (ad 82), .ref (ad 83)]) → C 82 = aI g 12 q1.2 → lv_has ls 7 [(0, .ref (ad 81)), (1, .int p0), (2, .int p1), (3, .int p2), (4, .int q1.1), (5, .int x4), (6, .int x5)] → ko x4 x5 = some rr → W p l e (headSpec wsX3_kindsIn rmX3_kindsIn).room s m args below meth c H locs 0 0 QQ (F0 m 49 ls [])) → ∀ (n : Nat) (x2 : Int32) (x3 : Int32) (C : Nat → va_E) (H : Heap) (locs : List Loc) (ls : Array Slot), va_P D vwCl (wd 109 ad C) H → va_S (Aw 109 ad s.heap.size) s.heap H locs → (∀ i : Nat, i ≠ 82 → C i = C0 i) → C 5 = .inr (7, [.ref (ad 6), .ref (ad 7), .ref (ad 8), .ref (ad 9), .ref (ad 10), .ref (ad 11), .ref (ad 12), .ref (ad 13), .ref (ad 14), .ref (ad 15), .ref (ad 16), .ref (ad 17), .ref (ad 18), .int t_there, .int t_lift, .int t_none]) → C 6 = aI g 12 t_down → C 8 = aI g 12 t_pac → C 19 = .inr (9, [.ref (ad 5), .ref (ad 20), .int w_src]) → C 20 = aI g 12 w_over → C 81 = .inr (3, [.ref (ad 5), .ref (ad 19), .ref (ad 82), .ref (ad 83)]) → C 82 = aI g 12 q1.2 → lv_has ls 7 [(0, .ref (ad 81)), (1, .int p0), (2, .int p1), (3, .int p2), (4, .int q1.1), (5, .int x2), (6, .int x3)] → LX3_kindsIn_15 q1 ko n x2 x3 = some rr → W p l e (headSpec wsX3_kindsIn rmX3_kindsIn).room s m args below meth c H locs 0 0 QQ (F0 m 15 ls []) := by
    intro ko hko n
    induction n with
    | zero =>
      intro x2 x3 C H locs ls hP hS hag h5 h6 h8 h19 h20 h81 h82 hl hf
      rw [LX3_kindsIn_15_z] at hf
      cases hf
    | succ n ih =>
      intro x2 x3 C H locs ls hP hS hag h5 h6 h8 h19 h20 h81 h82 hl hf
      rw [LX3_kindsIn_15_s] at hf
      refine lv_iload hx hb dX3_kindsIn_15 (lv_at hl 6 rfl) ?_
      refine lv_iload hx hb dX3_kindsIn_17 (lv_at hl 4 rfl) ?_
      refine lv_icmp_ge (tgt := 49) hx hb dX3_kindsIn_19 (by decide) (fun c6 => ?_) (fun c6 => ?_)
      · have hf := it_e c6 hf
        exact hko x2 x3 C H locs ls hP hS hag h5 h6 h8 h19 h20 h81 h82 (lv_sub hl [0, 1, 2, 3, 4, 5, 6] rfl) hf
      · have hf := ie_e c6 hf
        refine lv_iload hx hb dX3_kindsIn_22 (lv_at hl 5 rfl) ?_
        refine lv_aload_n hx hb dX3_kindsIn_24 rfl (lv_at hl 0 rfl) ?_
        refine lv_iload hx hb dX3_kindsIn_25 (lv_at hl 6 rfl) ?_
        refine lv_iload hx hb dX3_kindsIn_27 (lv_at hl 6 rfl) ?_
        obtain ⟨q7, hq7, hf⟩ := bd_e hf
        refine k_iR (va_runV (C := RX3) (As := [.int x3, .int x3]) (rest := [.int x2]) ⟨hx, hb, hml, hown, hts⟩ (c_X3_likeAhead (l := l) (sz := H.size) (p0 := x3) (p1 := x3) h81 h82 hq7) (cwV 2 hts gX3_kindsIn_X3_likeAhead rfl rfl rfl (by decide +kernel) ⟨Nat.le_of_ble_eq_true rfl, Nat.le_of_ble_eq_true rfl⟩) (preV_of hK hP (by decide) h81 rfl) rfl rfl hl.1 rfl (lv_room (Nat.le_of_ble_eq_true rfl)) dX3_kindsIn_29 ⟨Nat.le_refl _, Nat.le_refl _⟩) hA hP hS (fun H locs hP hS hbz_q7 => ?_)
        obtain ⟨q8, htq8, hf⟩ := bd_e hf
        have jnq8 : ∀ (C : Nat → va_E) (H : Heap) (locs : List Loc) (ls : Array Slot), va_P D vwCl (wd 109 ad C) H → va_S (Aw 109 ad s.heap.size) s.heap H locs → (∀ i : Nat, i ≠ 82 → C i = C0 i) → C 5 = .inr (7, [.ref (ad 6), .ref (ad 7), .ref (ad 8), .ref (ad 9), .ref (ad 10), .ref (ad 11), .ref (ad 12), .ref (ad 13), .ref (ad 14), .ref (ad 15), .ref (ad 16), .ref (ad 17), .ref (ad 18), .int t_there, .int t_lift, .int t_none]) → C 6 = aI g 12 t_down → C 8 = aI g 12 t_pac → C 19 = .inr (9, [.ref (ad 5), .ref (ad 20), .int w_src]) → C 20 = aI g 12 w_over → C 81 = .inr (3, [.ref (ad 5), .ref (ad 19), .ref (ad 82), .ref (ad 83)]) → C 82 = aI g 12 q1.2 → lv_has ls 7 [(0, .ref (ad 81)), (1, .int p0), (2, .int p1), (3, .int p2), (4, .int q1.1), (5, .int x2), (6, .int x3)] → W p l e (headSpec wsX3_kindsIn rmX3_kindsIn).room s m args below meth c H locs 0 0 QQ (F0 m 40 ls [.int q8, .int x2]) := by
          intro C H locs ls hP hS hag h5 h6 h8 h19 h20 h81 h82 hl
          refine lv_iadd hx hb dX3_kindsIn_40 ?_
          obtain ⟨x9, ex9, hf⟩ := lt_e hf
          refine tp_i ex9 ?_
          refine lv_istore (lv' := [(5, .int x9), (0, .ref (ad 81)), (1, .int p0), (2, .int p1), (3, .int p2), (4, .int q1.1), (6, .int x3)]) hx hb dX3_kindsIn_41 hl (by decide) rfl (fun ls hl => ?_)
          obtain ⟨x10, ex10, hf⟩ := lt_e hf
          refine lv_iinc (v := x10) (lv' := [(6, .int x10), (5, .int x9), (0, .ref (ad 81)), (1, .int p0), (2, .int p1), (3, .int p2), (4, .int q1.1)]) hx hb dX3_kindsIn_43 hl (k := 6) rfl (by rw [ex10]; rfl) (by decide) rfl (fun ls hl => ?_)
          refine lv_goto (tgt := 15) hx hb dX3_kindsIn_46 (by decide) ?_
          exact ih x9 x10 C H locs ls hP hS hag h5 h6 h8 h19 h20 h81 h82 (lv_sub hl [2, 3, 4, 5, 6, 1, 0] rfl) hf
        clear hf
        have hf := htq8
        refine lv_if_ne (tgt := 39) hx hb dX3_kindsIn_32 (by decide) (fun c11 => ?_) (fun c11 => ?_)
        · have hf := ie_e c11 hf
          refine lv_iconst (v := 0) hx hb dX3_kindsIn_39 (by decide) ?_
          obtain rfl := Option.some.inj hf
          exact jnq8 C H locs ls hP hS hag h5 h6 h8 h19 h20 h81 h82 (lv_sub hl [0, 1, 2, 3, 4, 5, 6] rfl)
        · have hf := it_e c11 hf
          refine lv_iconst (v := 1) hx hb dX3_kindsIn_35 (by decide) ?_
          refine lv_goto (tgt := 40) hx hb dX3_kindsIn_36 (by decide) ?_
          obtain rfl := Option.some.inj hf
          exact jnq8 C H locs ls hP hS hag h5 h6 h8 h19 h20 h81 h82 (lv_sub hl [0, 1, 2, 3, 4, 5, 6] rfl)
  refine key15 _ (fun x4 x5 C H locs ls hP hS hag h5 h6 h8 h19 h20 h81 h82 hl hf => ?_) FU 0 0 C H locs ls hP hS hag h5 h6 h8 h19 h20 h81 h82 (lv_sub hl [3, 4, 5, 6, 2, 1, 0] rfl) hf
  refine lv_iload hx hb dX3_kindsIn_49 (lv_at hl 5 rfl) ?_
  obtain rfl := Option.some.inj hf
  rw [← hQ]
  exact e_iW hx hb hr rfl (tP_i _) hP hS ⟨hag, h82⟩ hlocks dX3_kindsIn_51

def LX3_largestIn_15 (q1 : Int32 × (Nat → Int32)) (ko : Int32 → Int32 → Option (Int32 × (Nat → Int32))) : Nat → Int32 → Int32 → Option (Int32 × (Nat → Int32))
  | 0, _, _ => none
  | n + 1, x2, x3 =>
    if q1.1 ≤ x3 then
      ko x2 x3
    else
      (f_X3_likeAhead x3 q1.1 q1.2).bind fun q7 =>
      lt ((if x2 < q7 then q7 else x2) : Int32) fun x8 =>
      lt (x3 + 1 : Int32) fun x9 =>
      LX3_largestIn_15 q1 ko n x8 x9
theorem LX3_largestIn_15_z (q1 : Int32 × (Nat → Int32)) (ko : Int32 → Int32 → Option (Int32 × (Nat → Int32))) (x2 : Int32) (x3 : Int32) : LX3_largestIn_15 q1 ko 0 x2 x3 = none := rfl
theorem LX3_largestIn_15_s (q1 : Int32 × (Nat → Int32)) (ko : Int32 → Int32 → Option (Int32 × (Nat → Int32))) (n : Nat) (x2 : Int32) (x3 : Int32) : LX3_largestIn_15 q1 ko (n + 1) x2 x3 =
    if q1.1 ≤ x3 then
      ko x2 x3
    else
      (f_X3_likeAhead x3 q1.1 q1.2).bind fun q7 =>
      lt ((if x2 < q7 then q7 else x2) : Int32) fun x8 =>
      lt (x3 + 1 : Int32) fun x9 =>
      LX3_largestIn_15 q1 ko n x8 x9 := rfl
def f_X3_largestIn (p0 : Int32) (p1 : Int32) (p2 : Int32) (t_down : Nat → Int32) (t_pac : Nat → Int32) (w_src : Int32) (w_over : Nat → Int32) (l_kinds : Nat → Int32) : Option (Int32 × (Nat → Int32)) :=
  (f_X3_answerAll p0 p1 p2 t_down t_pac w_src w_over l_kinds).bind fun q1 =>
  LX3_largestIn_15 q1 (fun x4 x5 =>
    some (x4, q1.2)) FU 0 0
abbrev rmX3_largestIn : Room := { frames := 3, cells := 0, slots := 0, locals := 78 }
set_option maxHeartbeats 4000000 in
set_option maxRecDepth 100000 in
theorem c_X3_largestIn {l : Launch} {D : va_G} {g : Nat → ClassId} {ad : Nat → Nat} {C : Nat → va_E} {sz : Nat} {t_there : Int32} {t_lift : Int32} {t_none : Int32} {t_down : Nat → Int32} {t_pac : Nat → Int32} {w_src : Int32} {w_over : Nat → Int32} {l_kinds : Nat → Int32} {p0 : Int32} {p1 : Int32} {p2 : Int32} {rr : Int32 × (Nat → Int32)} (hI : Inj 109 ad) (h5 : C 5 = .inr (7, [.ref (ad 6), .ref (ad 7), .ref (ad 8), .ref (ad 9), .ref (ad 10), .ref (ad 11), .ref (ad 12), .ref (ad 13), .ref (ad 14), .ref (ad 15), .ref (ad 16), .ref (ad 17), .ref (ad 18), .int t_there, .int t_lift, .int t_none])) (h6 : C 6 = aI g 12 t_down) (h8 : C 8 = aI g 12 t_pac) (h19 : C 19 = .inr (9, [.ref (ad 5), .ref (ad 20), .int w_src])) (h20 : C 20 = aI g 12 w_over) (h81 : C 81 = .inr (3, [.ref (ad 5), .ref (ad 19), .ref (ad 82), .ref (ad 83)])) (h82 : C 82 = aI g 12 l_kinds) (hf : f_X3_largestIn p0 p1 p2 t_down t_pac w_src w_over l_kinds = some rr) : Met l yX3_largestIn wsX3_largestIn rmX3_largestIn (PcW D g 109 ad C sz [.ref (ad 81), .int p0, .int p1, .int p2]) (QiW D 109 ad sz tP rr.1 (fun C' => (∀ i : Nat, i ≠ 82 → C' i = C i) ∧ (C' 82 = aI g 12 rr.2))) 0 0 (Aw 109 ad sz) := by
  refine Met.ofW (cc := cX3_largestIn) (maxL := 7) (ret := (some .int)) (by decide) rfl ?_
  intro p e s m args below meth c s₁ B hml hv
  obtain ⟨hav, hsz, hK, hP⟩ := hv
  subst hsz
  have hx := B.exec
  have hb := B.bytes
  have hr := B.returns
  have hts := atoms_spec (ws := wsX3_largestIn) B.pre
  have hown : s.vm.findClass RX3 = some m.cls := findClass_of_methodNamed B.named
  have hlocks := B.notSynchronized
  generalize hQ : MQ below (QiW D 109 ad s.heap.size tP rr.1 (fun C' => (∀ i : Nat, i ≠ 82 → C' i = C i) ∧ (C' 82 = aI g 12 rr.2))) args s 0 0 (Aw 109 ad s.heap.size) = QQ
  have hS : va_S (Aw 109 ad s.heap.size) s.heap s.heap [] := va_S.rf
  have hA : ∀ q, s.heap.size ≤ q → (Aw 109 ad s.heap.size) q := fun q h => Or.inr h
  have hAd : ∀ j : Nat, j < 109 → (Aw 109 ad s.heap.size) (ad j) := fun j h => Or.inl ⟨j, h, rfl⟩
  obtain ⟨C0, hC0⟩ : ∃ C0 : Nat → va_E, C0 = C := ⟨_, rfl⟩
  have hag : ∀ i : Nat, i ≠ 82 → C i = C0 i := fun i _ => by rw [hC0]
  rw [← hC0] at hQ
  have k0 := hts (.methodLink RX3 49 Lib.Math.max.name) (List.mem_of_getElem? (i := 1) rfl)
  have k1 := hts (.static Lib.Math.max.name) (List.mem_of_getElem? (i := 2) rfl)
  have k2 := hts (.initialized "java/lang/Math") (List.mem_of_getElem? (i := 3) rfl)
  have k3 := hts (.code Lib.Math.max.name Lib.Math.max.code 2 (some .int)) (List.mem_of_getElem? (i := 4) rfl)
  have hE := lg_entry_eq m [.ref (ad 81), .int p0, .int p1, .int p2] 7
  rw [← hav] at hE
  rw [hE]
  have hl := lv_entry [.ref (ad 81), .int p0, .int p1, .int p2] (n := 7) (Nat.le_of_ble_eq_true rfl)
  generalize (lg_sl [.ref (ad 81), .int p0, .int p1, .int p2] ++ List.replicate (7 - (lg_sl [.ref (ad 81), .int p0, .int p1, .int p2]).length) Slot.unset).toArray = ls at hl ⊢
  have hl : lv_has ls 7 [(0, .ref (ad 81)), (1, .int p0), (2, .int p1), (3, .int p2)] := hl
  clear hE
  unfold f_X3_largestIn at hf
  suffices hgo : ∀ (H : Heap) (locs : List Loc), va_P D vwCl (wd 109 ad C) H → va_S (Aw 109 ad s.heap.size) s.heap H locs → W p l e (headSpec wsX3_largestIn rmX3_largestIn).room s m args below meth c H locs 0 0 QQ (F0 m 0 ls []) from hgo s.heap [] hP hS
  clear hS hP
  intro H locs hP hS
  refine lv_aload_n hx hb dX3_largestIn_0 rfl (lv_at hl 0 rfl) ?_
  refine lv_iload_n hx hb dX3_largestIn_1 rfl (lv_at hl 1 rfl) ?_
  refine lv_iload_n hx hb dX3_largestIn_2 rfl (lv_at hl 2 rfl) ?_
  refine lv_iload_n hx hb dX3_largestIn_3 rfl (lv_at hl 3 rfl) ?_
  obtain ⟨q1, hq1, hf⟩ := bd_e hf
  refine k_iW (va_runV (C := RX3) (As := [.int p0, .int p1, .int p2]) (rest := []) ⟨hx, hb, hml, hown, hts⟩ (c_X3_answerAll (l := l) (sz := H.size) (p0 := p0) (p1 := p1) (p2 := p2) hI h5 h6 h8 h19 h20 h81 h82 hq1) (cwV 3 hts gX3_largestIn_X3_answerAll rfl rfl rfl (by decide +kernel) ⟨Nat.le_of_ble_eq_true rfl, Nat.le_of_ble_eq_true rfl⟩) (preV_of hK hP (by decide) h81 rfl) rfl rfl hl.1 rfl (lv_room (Nat.le_of_ble_eq_true rfl)) dX3_largestIn_4 ⟨Nat.le_refl _, Nat.le_refl _⟩) hA hAd hS (fun C H locs hP hS hpo hbz_q1 => ?_)
  obtain ⟨he, h82⟩ := hpo
  have hag : ∀ i : Nat, i ≠ 82 → C i = C0 i := fun i h => (he i (by omega)).trans (hag i h)
  have h5 := (he 5 (by decide)).trans h5
  have h6 := (he 6 (by decide)).trans h6
  have h8 := (he 8 (by decide)).trans h8
  have h19 := (he 19 (by decide)).trans h19
  have h20 := (he 20 (by decide)).trans h20
  have h81 := (he 81 (by decide)).trans h81
  refine lv_istore (lv' := [(4, .int q1.1), (0, .ref (ad 81)), (1, .int p0), (2, .int p1), (3, .int p2)]) hx hb dX3_largestIn_7 hl (by decide) rfl (fun ls hl => ?_)
  refine lv_iconst (v := 0) hx hb dX3_largestIn_9 (by decide) ?_
  refine lv_istore (lv' := [(5, .int 0), (4, .int q1.1), (0, .ref (ad 81)), (1, .int p0), (2, .int p1), (3, .int p2)]) hx hb dX3_largestIn_10 hl (by decide) rfl (fun ls hl => ?_)
  refine lv_iconst (v := 0) hx hb dX3_largestIn_12 (by decide) ?_
  refine lv_istore (lv' := [(6, .int 0), (5, .int 0), (4, .int q1.1), (0, .ref (ad 81)), (1, .int p0), (2, .int p1), (3, .int p2)]) hx hb dX3_largestIn_13 hl (by decide) rfl (fun ls hl => ?_)
  have key15 : ∀ (ko : Int32 → Int32 → Option (Int32 × (Nat → Int32))), (∀ (x4 : Int32) (x5 : Int32) (C : Nat → va_E) (H : Heap) (locs : List Loc) (ls : Array Slot), va_P D vwCl (wd 109 ad C) H → va_S (Aw 109 ad s.heap.size) s.heap H locs → (∀ i : Nat, i ≠ 82 → C i = C0 i) → C 5 = .inr (7, [.ref (ad 6), .ref (ad 7), .ref (ad 8), .ref (ad 9), .ref (ad 10), .ref (ad 11), .ref (ad 12), .ref (ad 13), .ref (ad 14), .ref (ad 15), .ref (ad 16), .ref (ad 17), .ref (ad 18), .int t_there, .int t_lift, .int t_none]) → C 6 = aI g 12 t_down → C 8 = aI g 12 t_pac → C 19 = .inr (9, [.ref (ad 5), .ref (ad 20), .int w_src]) → C 20 = aI g 12 w_over → C 81 = .inr (3, [.ref (ad 5), .ref (ad 19), .ref (ad 82), .ref (ad 83)]) → C 82 = aI g 12 q1.2 → lv_has ls 7 [(0, .ref (ad 81)), (1, .int p0), (2, .int p1), (3, .int p2), (4, .int q1.1), (5, .int x4), (6, .int x5)] → ko x4 x5 = some rr → W p l e (headSpec wsX3_largestIn rmX3_largestIn).room s m args below meth c H locs 0 0 QQ (F0 m 43 ls [])) → ∀ (n : Nat) (x2 : Int32) (x3 : Int32) (C : Nat → va_E) (H : Heap) (locs : List Loc) (ls : Array Slot), va_P D vwCl (wd 109 ad C) H → va_S (Aw 109 ad s.heap.size) s.heap H locs → (∀ i : Nat, i ≠ 82 → C i = C0 i) → C 5 = .inr (7, [.ref (ad 6), .ref (ad 7), .ref (ad 8), .ref (ad 9), .ref (ad 10), .ref (ad 11), .ref (ad 12), .ref (ad 13), .ref (ad 14), .ref (ad 15), .ref (ad 16), .ref (ad 17), .ref (ad 18), .int t_there, .int t_lift, .int t_none]) → C 6 = aI g 12 t_down → C 8 = aI g 12 t_pac → C 19 = .inr (9, [.ref (ad 5), .ref (ad 20), .int w_src]) → C 20 = aI g 12 w_over → C 81 = .inr (3, [.ref (ad 5), .ref (ad 19), .ref (ad 82), .ref (ad 83)]) → C 82 = aI g 12 q1.2 → lv_has ls 7 [(0, .ref (ad 81)), (1, .int p0), (2, .int p1), (3, .int p2), (4, .int q1.1), (5, .int x2), (6, .int x3)] → LX3_largestIn_15 q1 ko n x2 x3 = some rr → W p l e (headSpec wsX3_largestIn rmX3_largestIn).room s m args below meth c H locs 0 0 QQ (F0 m 15 ls []) := by
    intro ko hko n
    induction n with
    | zero =>
      intro x2 x3 C H locs ls hP hS hag h5 h6 h8 h19 h20 h81 h82 hl hf
      rw [LX3_largestIn_15_z] at hf
      cases hf
    | succ n ih =>
      intro x2 x3 C H locs ls hP hS hag h5 h6 h8 h19 h20 h81 h82 hl hf
      rw [LX3_largestIn_15_s] at hf
      refine lv_iload hx hb dX3_largestIn_15 (lv_at hl 6 rfl) ?_
      refine lv_iload hx hb dX3_largestIn_17 (lv_at hl 4 rfl) ?_
      refine lv_icmp_ge (tgt := 43) hx hb dX3_largestIn_19 (by decide) (fun c6 => ?_) (fun c6 => ?_)
      · have hf := it_e c6 hf
        exact hko x2 x3 C H locs ls hP hS hag h5 h6 h8 h19 h20 h81 h82 (lv_sub hl [0, 1, 2, 3, 4, 5, 6] rfl) hf
      · have hf := ie_e c6 hf
        refine lv_iload hx hb dX3_largestIn_22 (lv_at hl 5 rfl) ?_
        refine lv_aload_n hx hb dX3_largestIn_24 rfl (lv_at hl 0 rfl) ?_
        refine lv_iload hx hb dX3_largestIn_25 (lv_at hl 6 rfl) ?_
        refine lv_iload hx hb dX3_largestIn_27 (lv_at hl 4 rfl) ?_
        obtain ⟨q7, hq7, hf⟩ := bd_e hf
        refine k_iR (va_runV (C := RX3) (As := [.int x3, .int q1.1]) (rest := [.int x2]) ⟨hx, hb, hml, hown, hts⟩ (c_X3_likeAhead (l := l) (sz := H.size) (p0 := x3) (p1 := q1.1) h81 h82 hq7) (cwV 2 hts gX3_largestIn_X3_likeAhead rfl rfl rfl (by decide +kernel) ⟨Nat.le_of_ble_eq_true rfl, Nat.le_of_ble_eq_true rfl⟩) (preV_of hK hP (by decide) h81 rfl) rfl rfl hl.1 rfl (lv_room (Nat.le_of_ble_eq_true rfl)) dX3_largestIn_29 ⟨Nat.le_refl _, Nat.le_refl _⟩) hA hP hS (fun H locs hP hS hbz_q7 => ?_)
        refine va_mmax (own := RX3) hx hb (hml.trans hl.1.symm) hown k0 k1 k2 k3 (Nat.le_of_ble_eq_true rfl) (Nat.le_of_ble_eq_true rfl) (Nat.le_refl _) (Nat.le_refl _) dX3_largestIn_32 ?_
        obtain ⟨x8, ex8, hf⟩ := lt_e hf
        refine tp_i ex8 ?_
        refine lv_istore (lv' := [(5, .int x8), (0, .ref (ad 81)), (1, .int p0), (2, .int p1), (3, .int p2), (4, .int q1.1), (6, .int x3)]) hx hb dX3_largestIn_35 hl (by decide) rfl (fun ls hl => ?_)
        obtain ⟨x9, ex9, hf⟩ := lt_e hf
        refine lv_iinc (v := x9) (lv' := [(6, .int x9), (5, .int x8), (0, .ref (ad 81)), (1, .int p0), (2, .int p1), (3, .int p2), (4, .int q1.1)]) hx hb dX3_largestIn_37 hl (k := 6) rfl (by rw [ex9]; rfl) (by decide) rfl (fun ls hl => ?_)
        refine lv_goto (tgt := 15) hx hb dX3_largestIn_40 (by decide) ?_
        exact ih x8 x9 C H locs ls hP hS hag h5 h6 h8 h19 h20 h81 h82 (lv_sub hl [2, 3, 4, 5, 6, 1, 0] rfl) hf
  refine key15 _ (fun x4 x5 C H locs ls hP hS hag h5 h6 h8 h19 h20 h81 h82 hl hf => ?_) FU 0 0 C H locs ls hP hS hag h5 h6 h8 h19 h20 h81 h82 (lv_sub hl [3, 4, 5, 6, 2, 1, 0] rfl) hf
  refine lv_iload hx hb dX3_largestIn_43 (lv_at hl 5 rfl) ?_
  obtain rfl := Option.some.inj hf
  rw [← hQ]
  exact e_iW hx hb hr rfl (tP_i _) hP hS ⟨hag, h82⟩ hlocks dX3_largestIn_45

def LX3_nodesBelowOne_5 (p0 : Int32) (p1 : Int32) (w_over : Nat → Int32) (ko : Int32 → Int32 → Option (Int32)) : Nat → Int32 → Int32 → Option (Int32)
  | 0, _, _ => none
  | n + 1, x1, x2 =>
    if 12 ≤ x2 then
      ko x1 x2
    else
      ri w_over 12 (x2) fun x6 =>
      (f_X10_has x6 p0).bind fun q8 =>
      ri w_over 12 (x2) fun x9 =>
      (f_X10_has x9 p1).bind fun q11 =>
      (if q8 = q11 then
        some (0)
      else
        some ((1 <<< (x2 &&& 31))) : Option (Int32)).bind fun q12 =>
      lt ((x1 ||| q12) : Int32) fun x13 =>
      lt (x2 + 1 : Int32) fun x14 =>
      LX3_nodesBelowOne_5 p0 p1 w_over ko n x13 x14
theorem LX3_nodesBelowOne_5_z (p0 : Int32) (p1 : Int32) (w_over : Nat → Int32) (ko : Int32 → Int32 → Option (Int32)) (x1 : Int32) (x2 : Int32) : LX3_nodesBelowOne_5 p0 p1 w_over ko 0 x1 x2 = none := rfl
theorem LX3_nodesBelowOne_5_s (p0 : Int32) (p1 : Int32) (w_over : Nat → Int32) (ko : Int32 → Int32 → Option (Int32)) (n : Nat) (x1 : Int32) (x2 : Int32) : LX3_nodesBelowOne_5 p0 p1 w_over ko (n + 1) x1 x2 =
    if 12 ≤ x2 then
      ko x1 x2
    else
      ri w_over 12 (x2) fun x6 =>
      (f_X10_has x6 p0).bind fun q8 =>
      ri w_over 12 (x2) fun x9 =>
      (f_X10_has x9 p1).bind fun q11 =>
      (if q8 = q11 then
        some (0)
      else
        some ((1 <<< (x2 &&& 31))) : Option (Int32)).bind fun q12 =>
      lt ((x1 ||| q12) : Int32) fun x13 =>
      lt (x2 + 1 : Int32) fun x14 =>
      LX3_nodesBelowOne_5 p0 p1 w_over ko n x13 x14 := rfl
def f_X3_nodesBelowOne (p0 : Int32) (p1 : Int32) (w_over : Nat → Int32) : Option (Int32) :=
  LX3_nodesBelowOne_5 p0 p1 w_over (fun x3 x4 =>
    some (x3)) FU 0 0
abbrev rmX3_nodesBelowOne : Room := { frames := 1, cells := 0, slots := 0, locals := 21 }
set_option maxHeartbeats 4000000 in
set_option maxRecDepth 100000 in
theorem c_X3_nodesBelowOne {l : Launch} {D : va_G} {g : Nat → ClassId} {ad : Nat → Nat} {C : Nat → va_E} {sz : Nat} {w_src : Int32} {w_over : Nat → Int32} {p0 : Int32} {p1 : Int32} {rr : Int32} (h19 : C 19 = .inr (9, [.ref (ad 5), .ref (ad 20), .int w_src])) (h20 : C 20 = aI g 12 w_over) (h81 : C 81 = .inr (3, [.ref (ad 5), .ref (ad 19), .ref (ad 82), .ref (ad 83)])) (hf : f_X3_nodesBelowOne p0 p1 w_over = some rr) : Met l yX3_nodesBelowOne wsX3_nodesBelowOne rmX3_nodesBelowOne (PcW D g 109 ad C sz [.ref (ad 81), .int p0, .int p1]) (QiR sz tP rr) 0 0 (An sz) := by
  refine Met.ofW (cc := cX3_nodesBelowOne) (maxL := 5) (ret := (some .int)) (by decide) rfl ?_
  intro p e s m args below meth c s₁ B hml hv
  obtain ⟨hav, hsz, hK, hP⟩ := hv
  subst hsz
  have hx := B.exec
  have hb := B.bytes
  have hr := B.returns
  have hts := atoms_spec (ws := wsX3_nodesBelowOne) B.pre
  have hown : s.vm.findClass RX3 = some m.cls := findClass_of_methodNamed B.named
  have hlocks := B.notSynchronized
  generalize hQ : MQ below (QiR s.heap.size tP rr) args s 0 0 (An s.heap.size) = QQ
  have hS : va_S (An s.heap.size) s.heap s.heap [] := va_S.rf
  have hA : ∀ q, s.heap.size ≤ q → (An s.heap.size) q := fun q h => h
  have k0 := hts (.fieldLink RX3 22 "UpDrain$Lids" "ways" "LUpDrain$Ways;") (List.mem_of_getElem? (i := 1) rfl)
  have nX3 : ∀ w ∈ u_ws RX3 TX3 4, w ∈ wsX3_nodesBelowOne := fun _ h => List.mem_cons_of_mem _ (List.mem_append_left _ (List.mem_append_right _ h))
  have k2 := nf_48 (A := args) hK
  have nX9 : ∀ w ∈ u_ws RX9 TX9 3, w ∈ wsX3_nodesBelowOne := fun _ h => List.mem_cons_of_mem _ (List.mem_append_right _ h)
  have k4 := nm_9 hK
  have k5 := hts (.initialized RX10) (List.mem_of_getElem? (i := 3) rfl)
  have k6 := hts (.static yX10_has) (List.mem_of_getElem? (i := 2) rfl)
  have hE := lg_entry_eq m [.ref (ad 81), .int p0, .int p1] 5
  rw [← hav] at hE
  rw [hE]
  have hl := lv_entry [.ref (ad 81), .int p0, .int p1] (n := 5) (Nat.le_of_ble_eq_true rfl)
  generalize (lg_sl [.ref (ad 81), .int p0, .int p1] ++ List.replicate (5 - (lg_sl [.ref (ad 81), .int p0, .int p1]).length) Slot.unset).toArray = ls at hl ⊢
  have hl : lv_has ls 5 [(0, .ref (ad 81)), (1, .int p0), (2, .int p1)] := hl
  clear hE
  unfold f_X3_nodesBelowOne at hf
  suffices hgo : ∀ (H : Heap) (locs : List Loc), va_P D vwCl (wd 109 ad C) H → va_S (An s.heap.size) s.heap H locs → W p l e (headSpec wsX3_nodesBelowOne rmX3_nodesBelowOne).room s m args below meth c H locs 0 0 QQ (F0 m 0 ls []) from hgo s.heap [] hP hS
  clear hS hP
  intro H locs hP hS
  refine lv_iconst (v := 0) hx hb dX3_nodesBelowOne_0 (by decide) ?_
  refine lv_istore_n (lv' := [(3, .int 0), (0, .ref (ad 81)), (1, .int p0), (2, .int p1)]) hx hb dX3_nodesBelowOne_1 rfl hl (by decide) rfl (fun ls hl => ?_)
  refine lv_iconst (v := 0) hx hb dX3_nodesBelowOne_2 (by decide) ?_
  refine lv_istore (lv' := [(4, .int 0), (3, .int 0), (0, .ref (ad 81)), (1, .int p0), (2, .int p1)]) hx hb dX3_nodesBelowOne_3 hl (by decide) rfl (fun ls hl => ?_)
  have key5 : ∀ (ko : Int32 → Int32 → Option (Int32)), (∀ (x3 : Int32) (x4 : Int32) (C : Nat → va_E) (H : Heap) (locs : List Loc) (ls : Array Slot), va_P D vwCl (wd 109 ad C) H → va_S (An s.heap.size) s.heap H locs → C 19 = .inr (9, [.ref (ad 5), .ref (ad 20), .int w_src]) → C 20 = aI g 12 w_over → C 81 = .inr (3, [.ref (ad 5), .ref (ad 19), .ref (ad 82), .ref (ad 83)]) → lv_has ls 5 [(0, .ref (ad 81)), (1, .int p0), (2, .int p1), (3, .int x3), (4, .int x4)] → ko x3 x4 = some rr → W p l e (headSpec wsX3_nodesBelowOne rmX3_nodesBelowOne).room s m args below meth c H locs 0 0 QQ (F0 m 60 ls [])) → ∀ (n : Nat) (x1 : Int32) (x2 : Int32) (C : Nat → va_E) (H : Heap) (locs : List Loc) (ls : Array Slot), va_P D vwCl (wd 109 ad C) H → va_S (An s.heap.size) s.heap H locs → C 19 = .inr (9, [.ref (ad 5), .ref (ad 20), .int w_src]) → C 20 = aI g 12 w_over → C 81 = .inr (3, [.ref (ad 5), .ref (ad 19), .ref (ad 82), .ref (ad 83)]) → lv_has ls 5 [(0, .ref (ad 81)), (1, .int p0), (2, .int p1), (3, .int x1), (4, .int x2)] → LX3_nodesBelowOne_5 p0 p1 w_over ko n x1 x2 = some rr → W p l e (headSpec wsX3_nodesBelowOne rmX3_nodesBelowOne).room s m args below meth c H locs 0 0 QQ (F0 m 5 ls []) := by
    intro ko hko n
    induction n with
    | zero =>
      intro x1 x2 C H locs ls hP hS h19 h20 h81 hl hf
      rw [LX3_nodesBelowOne_5_z] at hf
      cases hf
    | succ n ih =>
      intro x1 x2 C H locs ls hP hS h19 h20 h81 hl hf
      rw [LX3_nodesBelowOne_5_s] at hf
      refine lv_iload hx hb dX3_nodesBelowOne_5 (lv_at hl 4 rfl) ?_
      refine lv_bipush (v := 12) hx hb dX3_nodesBelowOne_7 (by decide) ?_
      refine lv_icmp_ge (tgt := 60) hx hb dX3_nodesBelowOne_9 (by decide) (fun c5 => ?_) (fun c5 => ?_)
      · have hf := it_e c5 hf
        exact hko x1 x2 C H locs ls hP hS h19 h20 h81 (lv_sub hl [0, 1, 2, 3, 4] rfl) hf
      · have hf := ie_e c5 hf
        refine lv_iload_n hx hb dX3_nodesBelowOne_12 rfl (lv_at hl 3 rfl) ?_
        refine lv_aload_n hx hb dX3_nodesBelowOne_13 rfl (lv_at hl 0 rfl) ?_
        refine r_get (own := RX3) (T := TX3) (n := 4) (ci := 3) (v := .ref (ad 19)) hx hb hts nX3 hown hK hP (by decide) h81 rfl 1 (by decide) k0 rfl dX3_nodesBelowOne_14 ?_
        refine r_getN (own := RX3) (T := TX9) (n := 3) (ci := 9) (v := .ref (ad 20)) hx hb hts nX9 hown hK hP (by decide) h19 rfl 1 (by decide) k2 rfl dX3_nodesBelowOne_17 ?_
        refine lv_iload hx hb dX3_nodesBelowOne_20 (lv_at hl 4 rfl) ?_
        obtain ⟨i7, x6, ex6, hf⟩ := ri_e hf
        refine r_iald hx hb hK hP (by decide) h20 i7 dX3_nodesBelowOne_22 ex6 ?_
        refine lv_iload_n hx hb dX3_nodesBelowOne_23 rfl (lv_at hl 1 rfl) ?_
        obtain ⟨q8, hq8, hf⟩ := bd_e hf
        refine k_iR (va_runSN (As := [.int x6, .int p0]) (rest := [.int x1]) ⟨hx, hb, hml, hown, hts⟩ (c_X10_has (l := l) (sz := H.size) (p0 := x6) (p1 := p0) hq8) ⟨va_cnB 2 hts gX3_nodesBelowOne_X10_has_n35 rfl rfl rfl k4 k5 (by decide +kernel) ⟨Nat.le_of_ble_eq_true rfl, Nat.le_of_ble_eq_true rfl⟩, k6, trivial⟩ preS0 rfl rfl hl.1 rfl (lv_room (Nat.le_of_ble_eq_true rfl)) dX3_nodesBelowOne_24 ⟨Nat.le_refl _, Nat.le_refl _⟩) hA hP hS (fun H locs hP hS hbz_q8 => ?_)
        refine lv_aload_n hx hb dX3_nodesBelowOne_27 rfl (lv_at hl 0 rfl) ?_
        refine r_get (own := RX3) (T := TX3) (n := 4) (ci := 3) (v := .ref (ad 19)) hx hb hts nX3 hown hK hP (by decide) h81 rfl 1 (by decide) k0 rfl dX3_nodesBelowOne_28 ?_
        refine r_getN (own := RX3) (T := TX9) (n := 3) (ci := 9) (v := .ref (ad 20)) hx hb hts nX9 hown hK hP (by decide) h19 rfl 1 (by decide) k2 rfl dX3_nodesBelowOne_31 ?_
        refine lv_iload hx hb dX3_nodesBelowOne_34 (lv_at hl 4 rfl) ?_
        obtain ⟨i10, x9, ex9, hf⟩ := ri_e hf
        refine r_iald hx hb hK hP (by decide) h20 i10 dX3_nodesBelowOne_36 ex9 ?_
        refine lv_iload_n hx hb dX3_nodesBelowOne_37 rfl (lv_at hl 2 rfl) ?_
        obtain ⟨q11, hq11, hf⟩ := bd_e hf
        refine k_iR (va_runSN (As := [.int x9, .int p1]) (rest := [.int q8, .int x1]) ⟨hx, hb, hml, hown, hts⟩ (c_X10_has (l := l) (sz := H.size) (p0 := x9) (p1 := p1) hq11) ⟨va_cnB 2 hts gX3_nodesBelowOne_X10_has_n35 rfl rfl rfl k4 k5 (by decide +kernel) ⟨Nat.le_of_ble_eq_true rfl, Nat.le_of_ble_eq_true rfl⟩, k6, trivial⟩ preS0 rfl rfl hl.1 rfl (lv_room (Nat.le_of_ble_eq_true rfl)) dX3_nodesBelowOne_38 ⟨Nat.le_refl _, Nat.le_refl _⟩) hA hP hS (fun H locs hP hS hbz_q11 => ?_)
        obtain ⟨q12, htq12, hf⟩ := bd_e hf
        have jnq12 : ∀ (C : Nat → va_E) (H : Heap) (locs : List Loc) (ls : Array Slot), va_P D vwCl (wd 109 ad C) H → va_S (An s.heap.size) s.heap H locs → C 19 = .inr (9, [.ref (ad 5), .ref (ad 20), .int w_src]) → C 20 = aI g 12 w_over → C 81 = .inr (3, [.ref (ad 5), .ref (ad 19), .ref (ad 82), .ref (ad 83)]) → lv_has ls 5 [(0, .ref (ad 81)), (1, .int p0), (2, .int p1), (3, .int x1), (4, .int x2)] → W p l e (headSpec wsX3_nodesBelowOne rmX3_nodesBelowOne).room s m args below meth c H locs 0 0 QQ (F0 m 52 ls [.int q12, .int x1]) := by
          intro C H locs ls hP hS h19 h20 h81 hl
          refine lv_ior hx hb dX3_nodesBelowOne_52 ?_
          obtain ⟨x13, ex13, hf⟩ := lt_e hf
          refine tp_i ex13 ?_
          refine lv_istore_n (lv' := [(3, .int x13), (0, .ref (ad 81)), (1, .int p0), (2, .int p1), (4, .int x2)]) hx hb dX3_nodesBelowOne_53 rfl hl (by decide) rfl (fun ls hl => ?_)
          obtain ⟨x14, ex14, hf⟩ := lt_e hf
          refine lv_iinc (v := x14) (lv' := [(4, .int x14), (3, .int x13), (0, .ref (ad 81)), (1, .int p0), (2, .int p1)]) hx hb dX3_nodesBelowOne_54 hl (k := 4) rfl (by rw [ex14]; rfl) (by decide) rfl (fun ls hl => ?_)
          refine lv_goto (tgt := 5) hx hb dX3_nodesBelowOne_57 (by decide) ?_
          exact ih x13 x14 C H locs ls hP hS h19 h20 h81 (lv_sub hl [2, 3, 4, 1, 0] rfl) hf
        clear hf
        have hf := htq12
        refine lv_icmp_eq (tgt := 51) hx hb dX3_nodesBelowOne_41 (by decide) (fun c15 => ?_) (fun c15 => ?_)
        · have hf := it_e c15 hf
          refine lv_iconst (v := 0) hx hb dX3_nodesBelowOne_51 (by decide) ?_
          obtain rfl := Option.some.inj hf
          exact jnq12 C H locs ls hP hS h19 h20 h81 (lv_sub hl [0, 1, 2, 3, 4] rfl)
        · have hf := ie_e c15 hf
          refine lv_iconst (v := 1) hx hb dX3_nodesBelowOne_44 (by decide) ?_
          refine lv_iload hx hb dX3_nodesBelowOne_45 (lv_at hl 4 rfl) ?_
          refine lv_ishl hx hb dX3_nodesBelowOne_47 ?_
          refine lv_goto (tgt := 52) hx hb dX3_nodesBelowOne_48 (by decide) ?_
          obtain rfl := Option.some.inj hf
          exact jnq12 C H locs ls hP hS h19 h20 h81 (lv_sub hl [0, 1, 2, 3, 4] rfl)
  refine key5 _ (fun x3 x4 C H locs ls hP hS h19 h20 h81 hl hf => ?_) FU 0 0 C H locs ls hP hS h19 h20 h81 (lv_sub hl [2, 3, 4, 1, 0] rfl) hf
  refine lv_iload_n hx hb dX3_nodesBelowOne_60 rfl (lv_at hl 3 rfl) ?_
  obtain rfl := Option.some.inj hf
  rw [← hQ]
  exact e_iR hx hb hr rfl (tP_i _) hS hlocks dX3_nodesBelowOne_61

def LX3_pairsFartherThan_13 (p0 : Int32) (t_down : Nat → Int32) (t_pac : Nat → Int32) (w_src : Int32) (w_over : Nat → Int32) (x2 : Int32) (ko : Int32 → Int32 → (Nat → Int32) → Option (Int32 × (Nat → Int32))) : Nat → Int32 → Int32 → (Nat → Int32) → Option (Int32 × (Nat → Int32))
  | 0, _, _, _ => none
  | n + 1, x8, x9, f10 =>
    if x2 ≤ x9 then
      ko x8 x9 f10
    else
      (f_X10_has w_src x2).bind fun q15 =>
      (if q15 = 0 then
        some (x8, f10)
      else
        (f_X10_has w_src x9).bind fun q19 =>
        if q19 = 0 then
          some (x8, f10)
        else
          (f_X9_minutesBetween x2 x9 t_down t_pac).bind fun q21 =>
          if q21 ≤ p0 then
            some (x8, f10)
          else
            (f_X3_nodesBelowOne x2 x9 w_over).bind fun q23 =>
            wi f10 66 (x8) (q23) fun f24 =>
            lt (x8 + 1 : Int32) fun x26 =>
            some (x26, f24) : Option (Int32 × (Nat → Int32))).bind fun q16 =>
      lt (x9 + 1 : Int32) fun x17 =>
      LX3_pairsFartherThan_13 p0 t_down t_pac w_src w_over x2 ko n q16.1 x17 q16.2
theorem LX3_pairsFartherThan_13_z (p0 : Int32) (t_down : Nat → Int32) (t_pac : Nat → Int32) (w_src : Int32) (w_over : Nat → Int32) (x2 : Int32) (ko : Int32 → Int32 → (Nat → Int32) → Option (Int32 × (Nat → Int32))) (x8 : Int32) (x9 : Int32) (f10 : Nat → Int32) : LX3_pairsFartherThan_13 p0 t_down t_pac w_src w_over x2 ko 0 x8 x9 f10 = none := rfl
theorem LX3_pairsFartherThan_13_s (p0 : Int32) (t_down : Nat → Int32) (t_pac : Nat → Int32) (w_src : Int32) (w_over : Nat → Int32) (x2 : Int32) (ko : Int32 → Int32 → (Nat → Int32) → Option (Int32 × (Nat → Int32))) (n : Nat) (x8 : Int32) (x9 : Int32) (f10 : Nat → Int32) : LX3_pairsFartherThan_13 p0 t_down t_pac w_src w_over x2 ko (n + 1) x8 x9 f10 =
    if x2 ≤ x9 then
      ko x8 x9 f10
    else
      (f_X10_has w_src x2).bind fun q15 =>
      (if q15 = 0 then
        some (x8, f10)
      else
        (f_X10_has w_src x9).bind fun q19 =>
        if q19 = 0 then
          some (x8, f10)
        else
          (f_X9_minutesBetween x2 x9 t_down t_pac).bind fun q21 =>
          if q21 ≤ p0 then
            some (x8, f10)
          else
            (f_X3_nodesBelowOne x2 x9 w_over).bind fun q23 =>
            wi f10 66 (x8) (q23) fun f24 =>
            lt (x8 + 1 : Int32) fun x26 =>
            some (x26, f24) : Option (Int32 × (Nat → Int32))).bind fun q16 =>
      lt (x9 + 1 : Int32) fun x17 =>
      LX3_pairsFartherThan_13 p0 t_down t_pac w_src w_over x2 ko n q16.1 x17 q16.2 := rfl
def LX3_pairsFartherThan_4 (p0 : Int32) (t_down : Nat → Int32) (t_pac : Nat → Int32) (w_src : Int32) (w_over : Nat → Int32) (ko : Int32 → Int32 → (Nat → Int32) → Option (Int32 × (Nat → Int32))) : Nat → Int32 → Int32 → (Nat → Int32) → Option (Int32 × (Nat → Int32))
  | 0, _, _, _ => none
  | n + 1, x1, x2, f3 =>
    if 12 ≤ x2 then
      ko x1 x2 f3
    else
      LX3_pairsFartherThan_13 p0 t_down t_pac w_src w_over x2 (fun x11 x12 f13 =>
        lt (x2 + 1 : Int32) fun x27 =>
        LX3_pairsFartherThan_4 p0 t_down t_pac w_src w_over ko n x11 x27 f13) FU x1 0 f3
theorem LX3_pairsFartherThan_4_z (p0 : Int32) (t_down : Nat → Int32) (t_pac : Nat → Int32) (w_src : Int32) (w_over : Nat → Int32) (ko : Int32 → Int32 → (Nat → Int32) → Option (Int32 × (Nat → Int32))) (x1 : Int32) (x2 : Int32) (f3 : Nat → Int32) : LX3_pairsFartherThan_4 p0 t_down t_pac w_src w_over ko 0 x1 x2 f3 = none := rfl
theorem LX3_pairsFartherThan_4_s (p0 : Int32) (t_down : Nat → Int32) (t_pac : Nat → Int32) (w_src : Int32) (w_over : Nat → Int32) (ko : Int32 → Int32 → (Nat → Int32) → Option (Int32 × (Nat → Int32))) (n : Nat) (x1 : Int32) (x2 : Int32) (f3 : Nat → Int32) : LX3_pairsFartherThan_4 p0 t_down t_pac w_src w_over ko (n + 1) x1 x2 f3 =
    if 12 ≤ x2 then
      ko x1 x2 f3
    else
      LX3_pairsFartherThan_13 p0 t_down t_pac w_src w_over x2 (fun x11 x12 f13 =>
        lt (x2 + 1 : Int32) fun x27 =>
        LX3_pairsFartherThan_4 p0 t_down t_pac w_src w_over ko n x11 x27 f13) FU x1 0 f3 := rfl
def f_X3_pairsFartherThan (p0 : Int32) (t_down : Nat → Int32) (t_pac : Nat → Int32) (w_src : Int32) (w_over : Nat → Int32) (l_unl : Nat → Int32) : Option (Int32 × (Nat → Int32)) :=
  LX3_pairsFartherThan_4 p0 t_down t_pac w_src w_over (fun x4 x5 f6 =>
    some (x4, f6)) FU 0 0 l_unl
abbrev rmX3_pairsFartherThan : Room := { frames := 2, cells := 0, slots := 0, locals := 45 }
set_option maxHeartbeats 4000000 in
set_option maxRecDepth 100000 in
theorem c_X3_pairsFartherThan {l : Launch} {D : va_G} {g : Nat → ClassId} {ad : Nat → Nat} {C : Nat → va_E} {sz : Nat} {t_there : Int32} {t_lift : Int32} {t_none : Int32} {t_down : Nat → Int32} {t_pac : Nat → Int32} {w_src : Int32} {w_over : Nat → Int32} {l_unl : Nat → Int32} {p0 : Int32} {rr : Int32 × (Nat → Int32)} (hI : Inj 109 ad) (h5 : C 5 = .inr (7, [.ref (ad 6), .ref (ad 7), .ref (ad 8), .ref (ad 9), .ref (ad 10), .ref (ad 11), .ref (ad 12), .ref (ad 13), .ref (ad 14), .ref (ad 15), .ref (ad 16), .ref (ad 17), .ref (ad 18), .int t_there, .int t_lift, .int t_none])) (h6 : C 6 = aI g 12 t_down) (h8 : C 8 = aI g 12 t_pac) (h19 : C 19 = .inr (9, [.ref (ad 5), .ref (ad 20), .int w_src])) (h20 : C 20 = aI g 12 w_over) (h81 : C 81 = .inr (3, [.ref (ad 5), .ref (ad 19), .ref (ad 82), .ref (ad 83)])) (h83 : C 83 = aI g 66 l_unl) (hf : f_X3_pairsFartherThan p0 t_down t_pac w_src w_over l_unl = some rr) : Met l yX3_pairsFartherThan wsX3_pairsFartherThan rmX3_pairsFartherThan (PcW D g 109 ad C sz [.ref (ad 81), .int p0]) (QiW D 109 ad sz tP rr.1 (fun C' => (∀ i : Nat, i ≠ 83 → C' i = C i) ∧ (C' 83 = aI g 66 rr.2))) 0 0 (Aw 109 ad sz) := by
  refine Met.ofW (cc := cX3_pairsFartherThan) (maxL := 5) (ret := (some .int)) (by decide) rfl ?_
  intro p e s m args below meth c s₁ B hml hv
  obtain ⟨hav, hsz, hK, hP⟩ := hv
  subst hsz
  have hx := B.exec
  have hb := B.bytes
  have hr := B.returns
  have hts := atoms_spec (ws := wsX3_pairsFartherThan) B.pre
  have hown : s.vm.findClass RX3 = some m.cls := findClass_of_methodNamed B.named
  have hlocks := B.notSynchronized
  generalize hQ : MQ below (QiW D 109 ad s.heap.size tP rr.1 (fun C' => (∀ i : Nat, i ≠ 83 → C' i = C i) ∧ (C' 83 = aI g 66 rr.2))) args s 0 0 (Aw 109 ad s.heap.size) = QQ
  have hS : va_S (Aw 109 ad s.heap.size) s.heap s.heap [] := va_S.rf
  have hA : ∀ q, s.heap.size ≤ q → (Aw 109 ad s.heap.size) q := fun q h => Or.inr h
  have hAd : ∀ j : Nat, j < 109 → (Aw 109 ad s.heap.size) (ad j) := fun j h => Or.inl ⟨j, h, rfl⟩
  obtain ⟨C0, hC0⟩ : ∃ C0 : Nat → va_E, C0 = C := ⟨_, rfl⟩
  have hag : ∀ i : Nat, i ≠ 83 → C i = C0 i := fun i _ => by rw [hC0]
  rw [← hC0] at hQ
  have k0 := hts (.fieldLink RX3 22 "UpDrain$Lids" "ways" "LUpDrain$Ways;") (List.mem_of_getElem? (i := 1) rfl)
  have nX3 : ∀ w ∈ u_ws RX3 TX3 4, w ∈ wsX3_pairsFartherThan := fun _ h => List.mem_cons_of_mem _ (List.mem_append_left _ (List.mem_append_left _ (List.mem_append_right _ h)))
  have k2 := nf_54 (A := args) hK
  have nX9 : ∀ w ∈ u_ws RX9 TX9 3, w ∈ wsX3_pairsFartherThan := fun _ h => List.mem_cons_of_mem _ (List.mem_append_left _ (List.mem_append_right _ h))
  have k4 := nm_9 hK
  have k5 := hts (.initialized RX10) (List.mem_of_getElem? (i := 4) rfl)
  have k6 := hts (.static yX10_has) (List.mem_of_getElem? (i := 3) rfl)
  have k7 := hts (.fieldLink RX3 15 "UpDrain$Lids" "unlikeBy" "[I") (List.mem_of_getElem? (i := 2) rfl)
  have hE := lg_entry_eq m [.ref (ad 81), .int p0] 5
  rw [← hav] at hE
  rw [hE]
  have hl := lv_entry [.ref (ad 81), .int p0] (n := 5) (Nat.le_of_ble_eq_true rfl)
  generalize (lg_sl [.ref (ad 81), .int p0] ++ List.replicate (5 - (lg_sl [.ref (ad 81), .int p0]).length) Slot.unset).toArray = ls at hl ⊢
  have hl : lv_has ls 5 [(0, .ref (ad 81)), (1, .int p0)] := hl
  clear hE
  unfold f_X3_pairsFartherThan at hf
  suffices hgo : ∀ (H : Heap) (locs : List Loc), va_P D vwCl (wd 109 ad C) H → va_S (Aw 109 ad s.heap.size) s.heap H locs → W p l e (headSpec wsX3_pairsFartherThan rmX3_pairsFartherThan).room s m args below meth c H locs 0 0 QQ (F0 m 0 ls []) from hgo s.heap [] hP hS
  clear hS hP
  intro H locs hP hS
  refine lv_iconst (v := 0) hx hb dX3_pairsFartherThan_0 (by decide) ?_
  refine lv_istore_n (lv' := [(2, .int 0), (0, .ref (ad 81)), (1, .int p0)]) hx hb dX3_pairsFartherThan_1 rfl hl (by decide) rfl (fun ls hl => ?_)
  refine lv_iconst (v := 0) hx hb dX3_pairsFartherThan_2 (by decide) ?_
  refine lv_istore_n (lv' := [(3, .int 0), (2, .int 0), (0, .ref (ad 81)), (1, .int p0)]) hx hb dX3_pairsFartherThan_3 rfl hl (by decide) rfl (fun ls hl => ?_)
  have key4 : ∀ (ko : Int32 → Int32 → (Nat → Int32) → Option (Int32 × (Nat → Int32))), (∀ (x4 : Int32) (x5 : Int32) (f6 : Nat → Int32) (C : Nat → va_E) (H : Heap) (locs : List Loc) (ls : Array Slot), va_P D vwCl (wd 109 ad C) H → va_S (Aw 109 ad s.heap.size) s.heap H locs → (∀ i : Nat, i ≠ 83 → C i = C0 i) → C 5 = .inr (7, [.ref (ad 6), .ref (ad 7), .ref (ad 8), .ref (ad 9), .ref (ad 10), .ref (ad 11), .ref (ad 12), .ref (ad 13), .ref (ad 14), .ref (ad 15), .ref (ad 16), .ref (ad 17), .ref (ad 18), .int t_there, .int t_lift, .int t_none]) → C 6 = aI g 12 t_down → C 8 = aI g 12 t_pac → C 19 = .inr (9, [.ref (ad 5), .ref (ad 20), .int w_src]) → C 20 = aI g 12 w_over → C 81 = .inr (3, [.ref (ad 5), .ref (ad 19), .ref (ad 82), .ref (ad 83)]) → C 83 = aI g 66 f6 → lv_has ls 5 [(0, .ref (ad 81)), (1, .int p0), (2, .int x4), (3, .int x5)] → ko x4 x5 f6 = some rr → W p l e (headSpec wsX3_pairsFartherThan rmX3_pairsFartherThan).room s m args below meth c H locs 0 0 QQ (F0 m 90 ls [])) → ∀ (n : Nat) (x1 : Int32) (x2 : Int32) (f3 : Nat → Int32) (C : Nat → va_E) (H : Heap) (locs : List Loc) (ls : Array Slot), va_P D vwCl (wd 109 ad C) H → va_S (Aw 109 ad s.heap.size) s.heap H locs → (∀ i : Nat, i ≠ 83 → C i = C0 i) → C 5 = .inr (7, [.ref (ad 6), .ref (ad 7), .ref (ad 8), .ref (ad 9), .ref (ad 10), .ref (ad 11), .ref (ad 12), .ref (ad 13), .ref (ad 14), .ref (ad 15), .ref (ad 16), .ref (ad 17), .ref (ad 18), .int t_there, .int t_lift, .int t_none]) → C 6 = aI g 12 t_down → C 8 = aI g 12 t_pac → C 19 = .inr (9, [.ref (ad 5), .ref (ad 20), .int w_src]) → C 20 = aI g 12 w_over → C 81 = .inr (3, [.ref (ad 5), .ref (ad 19), .ref (ad 82), .ref (ad 83)]) → C 83 = aI g 66 f3 → lv_has ls 5 [(0, .ref (ad 81)), (1, .int p0), (2, .int x1), (3, .int x2)] → LX3_pairsFartherThan_4 p0 t_down t_pac w_src w_over ko n x1 x2 f3 = some rr → W p l e (headSpec wsX3_pairsFartherThan rmX3_pairsFartherThan).room s m args below meth c H locs 0 0 QQ (F0 m 4 ls []) := by
    intro ko hko n
    induction n with
    | zero =>
      intro x1 x2 f3 C H locs ls hP hS hag h5 h6 h8 h19 h20 h81 h83 hl hf
      rw [LX3_pairsFartherThan_4_z] at hf
      cases hf
    | succ n ih =>
      intro x1 x2 f3 C H locs ls hP hS hag h5 h6 h8 h19 h20 h81 h83 hl hf
      rw [LX3_pairsFartherThan_4_s] at hf
      refine lv_iload_n hx hb dX3_pairsFartherThan_4 rfl (lv_at hl 3 rfl) ?_
      refine lv_bipush (v := 12) hx hb dX3_pairsFartherThan_5 (by decide) ?_
      refine lv_icmp_ge (tgt := 90) hx hb dX3_pairsFartherThan_7 (by decide) (fun c7 => ?_) (fun c7 => ?_)
      · have hf := it_e c7 hf
        exact hko x1 x2 f3 C H locs ls hP hS hag h5 h6 h8 h19 h20 h81 h83 (lv_sub hl [0, 1, 2, 3] rfl) hf
      · have hf := ie_e c7 hf
        refine lv_iconst (v := 0) hx hb dX3_pairsFartherThan_10 (by decide) ?_
        refine lv_istore (lv' := [(4, .int 0), (0, .ref (ad 81)), (1, .int p0), (2, .int x1), (3, .int x2)]) hx hb dX3_pairsFartherThan_11 hl (by decide) rfl (fun ls hl => ?_)
        have key13 : ∀ (ko : Int32 → Int32 → (Nat → Int32) → Option (Int32 × (Nat → Int32))), (∀ (x11 : Int32) (x12 : Int32) (f13 : Nat → Int32) (C : Nat → va_E) (H : Heap) (locs : List Loc) (ls : Array Slot), va_P D vwCl (wd 109 ad C) H → va_S (Aw 109 ad s.heap.size) s.heap H locs → (∀ i : Nat, i ≠ 83 → C i = C0 i) → C 5 = .inr (7, [.ref (ad 6), .ref (ad 7), .ref (ad 8), .ref (ad 9), .ref (ad 10), .ref (ad 11), .ref (ad 12), .ref (ad 13), .ref (ad 14), .ref (ad 15), .ref (ad 16), .ref (ad 17), .ref (ad 18), .int t_there, .int t_lift, .int t_none]) → C 6 = aI g 12 t_down → C 8 = aI g 12 t_pac → C 19 = .inr (9, [.ref (ad 5), .ref (ad 20), .int w_src]) → C 20 = aI g 12 w_over → C 81 = .inr (3, [.ref (ad 5), .ref (ad 19), .ref (ad 82), .ref (ad 83)]) → C 83 = aI g 66 f13 → lv_has ls 5 [(0, .ref (ad 81)), (1, .int p0), (2, .int x11), (3, .int x2), (4, .int x12)] → ko x11 x12 f13 = some rr → W p l e (headSpec wsX3_pairsFartherThan rmX3_pairsFartherThan).room s m args below meth c H locs 0 0 QQ (F0 m 84 ls [])) → ∀ (n : Nat) (x8 : Int32) (x9 : Int32) (f10 : Nat → Int32) (C : Nat → va_E) (H : Heap) (locs : List Loc) (ls : Array Slot), va_P D vwCl (wd 109 ad C) H → va_S (Aw 109 ad s.heap.size) s.heap H locs → (∀ i : Nat, i ≠ 83 → C i = C0 i) → C 5 = .inr (7, [.ref (ad 6), .ref (ad 7), .ref (ad 8), .ref (ad 9), .ref (ad 10), .ref (ad 11), .ref (ad 12), .ref (ad 13), .ref (ad 14), .ref (ad 15), .ref (ad 16), .ref (ad 17), .ref (ad 18), .int t_there, .int t_lift, .int t_none]) → C 6 = aI g 12 t_down → C 8 = aI g 12 t_pac → C 19 = .inr (9, [.ref (ad 5), .ref (ad 20), .int w_src]) → C 20 = aI g 12 w_over → C 81 = .inr (3, [.ref (ad 5), .ref (ad 19), .ref (ad 82), .ref (ad 83)]) → C 83 = aI g 66 f10 → lv_has ls 5 [(0, .ref (ad 81)), (1, .int p0), (2, .int x8), (3, .int x2), (4, .int x9)] → LX3_pairsFartherThan_13 p0 t_down t_pac w_src w_over x2 ko n x8 x9 f10 = some rr → W p l e (headSpec wsX3_pairsFartherThan rmX3_pairsFartherThan).room s m args below meth c H locs 0 0 QQ (F0 m 13 ls []) := by
          intro ko hko n
          induction n with
          | zero =>
            intro x8 x9 f10 C H locs ls hP hS hag h5 h6 h8 h19 h20 h81 h83 hl hf
            rw [LX3_pairsFartherThan_13_z] at hf
            cases hf
          | succ n ih =>
            intro x8 x9 f10 C H locs ls hP hS hag h5 h6 h8 h19 h20 h81 h83 hl hf
            rw [LX3_pairsFartherThan_13_s] at hf
            refine lv_iload hx hb dX3_pairsFartherThan_13 (lv_at hl 4 rfl) ?_
            refine lv_iload_n hx hb dX3_pairsFartherThan_15 rfl (lv_at hl 3 rfl) ?_
            refine lv_icmp_ge (tgt := 84) hx hb dX3_pairsFartherThan_16 (by decide) (fun c14 => ?_) (fun c14 => ?_)
            · have hf := it_e c14 hf
              exact hko x8 x9 f10 C H locs ls hP hS hag h5 h6 h8 h19 h20 h81 h83 (lv_sub hl [0, 1, 2, 3, 4] rfl) hf
            · have hf := ie_e c14 hf
              refine lv_aload_n hx hb dX3_pairsFartherThan_19 rfl (lv_at hl 0 rfl) ?_
              refine r_get (own := RX3) (T := TX3) (n := 4) (ci := 3) (v := .ref (ad 19)) hx hb hts nX3 hown hK hP (by decide) h81 rfl 1 (by decide) k0 rfl dX3_pairsFartherThan_20 ?_
              refine r_getN (own := RX3) (T := TX9) (n := 3) (ci := 9) (v := .int w_src) hx hb hts nX9 hown hK hP (by decide) h19 rfl 2 (by decide) k2 rfl dX3_pairsFartherThan_23 ?_
              refine lv_iload_n hx hb dX3_pairsFartherThan_26 rfl (lv_at hl 3 rfl) ?_
              obtain ⟨q15, hq15, hf⟩ := bd_e hf
              refine k_iR (va_runSN (As := [.int w_src, .int x2]) (rest := []) ⟨hx, hb, hml, hown, hts⟩ (c_X10_has (l := l) (sz := H.size) (p0 := w_src) (p1 := x2) hq15) ⟨va_cnB 2 hts gX3_pairsFartherThan_X10_has_n35 rfl rfl rfl k4 k5 (by decide +kernel) ⟨Nat.le_of_ble_eq_true rfl, Nat.le_of_ble_eq_true rfl⟩, k6, trivial⟩ preS0 rfl rfl hl.1 rfl (lv_room (Nat.le_of_ble_eq_true rfl)) dX3_pairsFartherThan_27 ⟨Nat.le_refl _, Nat.le_refl _⟩) hA hP hS (fun H locs hP hS hbz_q15 => ?_)
              obtain ⟨q16, htq16, hf⟩ := bd_e hf
              have jnq16 : ∀ (C : Nat → va_E) (H : Heap) (locs : List Loc) (ls : Array Slot), va_P D vwCl (wd 109 ad C) H → va_S (Aw 109 ad s.heap.size) s.heap H locs → (∀ i : Nat, i ≠ 83 → C i = C0 i) → C 5 = .inr (7, [.ref (ad 6), .ref (ad 7), .ref (ad 8), .ref (ad 9), .ref (ad 10), .ref (ad 11), .ref (ad 12), .ref (ad 13), .ref (ad 14), .ref (ad 15), .ref (ad 16), .ref (ad 17), .ref (ad 18), .int t_there, .int t_lift, .int t_none]) → C 6 = aI g 12 t_down → C 8 = aI g 12 t_pac → C 19 = .inr (9, [.ref (ad 5), .ref (ad 20), .int w_src]) → C 20 = aI g 12 w_over → C 81 = .inr (3, [.ref (ad 5), .ref (ad 19), .ref (ad 82), .ref (ad 83)]) → C 83 = aI g 66 q16.2 → lv_has ls 5 [(0, .ref (ad 81)), (1, .int p0), (2, .int q16.1), (3, .int x2), (4, .int x9)] → W p l e (headSpec wsX3_pairsFartherThan rmX3_pairsFartherThan).room s m args below meth c H locs 0 0 QQ (F0 m 78 ls []) := by
                intro C H locs ls hP hS hag h5 h6 h8 h19 h20 h81 h83 hl
                obtain ⟨x17, ex17, hf⟩ := lt_e hf
                refine lv_iinc (v := x17) (lv' := [(4, .int x17), (0, .ref (ad 81)), (1, .int p0), (2, .int q16.1), (3, .int x2)]) hx hb dX3_pairsFartherThan_78 hl (k := 4) rfl (by rw [ex17]; rfl) (by decide) rfl (fun ls hl => ?_)
                refine lv_goto (tgt := 13) hx hb dX3_pairsFartherThan_81 (by decide) ?_
                exact ih q16.1 x17 q16.2 C H locs ls hP hS hag h5 h6 h8 h19 h20 h81 h83 (lv_sub hl [1, 2, 3, 4, 0] rfl) hf
              clear hf
              have hf := htq16
              refine lv_if_eq (tgt := 78) hx hb dX3_pairsFartherThan_30 (by decide) (fun c18 => ?_) (fun c18 => ?_)
              · have hf := it_e c18 hf
                obtain rfl := Option.some.inj hf
                exact jnq16 C H locs ls hP hS hag h5 h6 h8 h19 h20 h81 h83 (lv_sub hl [0, 1, 2, 3, 4] rfl)
              · have hf := ie_e c18 hf
                refine lv_aload_n hx hb dX3_pairsFartherThan_33 rfl (lv_at hl 0 rfl) ?_
                refine r_get (own := RX3) (T := TX3) (n := 4) (ci := 3) (v := .ref (ad 19)) hx hb hts nX3 hown hK hP (by decide) h81 rfl 1 (by decide) k0 rfl dX3_pairsFartherThan_34 ?_
                refine r_getN (own := RX3) (T := TX9) (n := 3) (ci := 9) (v := .int w_src) hx hb hts nX9 hown hK hP (by decide) h19 rfl 2 (by decide) k2 rfl dX3_pairsFartherThan_37 ?_
                refine lv_iload hx hb dX3_pairsFartherThan_40 (lv_at hl 4 rfl) ?_
                obtain ⟨q19, hq19, hf⟩ := bd_e hf
                refine k_iR (va_runSN (As := [.int w_src, .int x9]) (rest := []) ⟨hx, hb, hml, hown, hts⟩ (c_X10_has (l := l) (sz := H.size) (p0 := w_src) (p1 := x9) hq19) ⟨va_cnB 2 hts gX3_pairsFartherThan_X10_has_n35 rfl rfl rfl k4 k5 (by decide +kernel) ⟨Nat.le_of_ble_eq_true rfl, Nat.le_of_ble_eq_true rfl⟩, k6, trivial⟩ preS0 rfl rfl hl.1 rfl (lv_room (Nat.le_of_ble_eq_true rfl)) dX3_pairsFartherThan_42 ⟨Nat.le_refl _, Nat.le_refl _⟩) hA hP hS (fun H locs hP hS hbz_q19 => ?_)
                refine lv_if_eq (tgt := 78) hx hb dX3_pairsFartherThan_45 (by decide) (fun c20 => ?_) (fun c20 => ?_)
                · have hf := it_e c20 hf
                  obtain rfl := Option.some.inj hf
                  exact jnq16 C H locs ls hP hS hag h5 h6 h8 h19 h20 h81 h83 (lv_sub hl [0, 1, 2, 3, 4] rfl)
                · have hf := ie_e c20 hf
                  refine lv_aload_n hx hb dX3_pairsFartherThan_48 rfl (lv_at hl 0 rfl) ?_
                  refine r_get (own := RX3) (T := TX3) (n := 4) (ci := 3) (v := .ref (ad 19)) hx hb hts nX3 hown hK hP (by decide) h81 rfl 1 (by decide) k0 rfl dX3_pairsFartherThan_49 ?_
                  refine lv_iload_n hx hb dX3_pairsFartherThan_52 rfl (lv_at hl 3 rfl) ?_
                  refine lv_iload hx hb dX3_pairsFartherThan_53 (lv_at hl 4 rfl) ?_
                  obtain ⟨q21, hq21, hf⟩ := bd_e hf
                  refine k_iR (va_runV (C := RX9) (As := [.int x2, .int x9]) (rest := []) ⟨hx, hb, hml, hown, hts⟩ (c_X9_minutesBetween (l := l) (sz := H.size) (p0 := x2) (p1 := x9) h5 h6 h8 h19 hq21) (cwV 2 hts gX3_pairsFartherThan_X9_minutesBetween rfl rfl rfl (by decide +kernel) ⟨Nat.le_of_ble_eq_true rfl, Nat.le_of_ble_eq_true rfl⟩) (preV_of hK hP (by decide) h19 rfl) rfl rfl hl.1 rfl (lv_room (Nat.le_of_ble_eq_true rfl)) dX3_pairsFartherThan_55 ⟨Nat.le_refl _, Nat.le_refl _⟩) hA hP hS (fun H locs hP hS hbz_q21 => ?_)
                  refine lv_iload_n hx hb dX3_pairsFartherThan_58 rfl (lv_at hl 1 rfl) ?_
                  refine lv_icmp_le (tgt := 78) hx hb dX3_pairsFartherThan_59 (by decide) (fun c22 => ?_) (fun c22 => ?_)
                  · have hf := it_e c22 hf
                    obtain rfl := Option.some.inj hf
                    exact jnq16 C H locs ls hP hS hag h5 h6 h8 h19 h20 h81 h83 (lv_sub hl [0, 1, 2, 3, 4] rfl)
                  · have hf := ie_e c22 hf
                    refine lv_aload_n hx hb dX3_pairsFartherThan_62 rfl (lv_at hl 0 rfl) ?_
                    refine r_get (own := RX3) (T := TX3) (n := 4) (ci := 3) (v := .ref (ad 83)) hx hb hts nX3 hown hK hP (by decide) h81 rfl 3 (by decide) k7 rfl dX3_pairsFartherThan_63 ?_
                    refine lv_iload_n hx hb dX3_pairsFartherThan_66 rfl (lv_at hl 2 rfl) ?_
                    refine lv_aload_n hx hb dX3_pairsFartherThan_67 rfl (lv_at hl 0 rfl) ?_
                    refine lv_iload_n hx hb dX3_pairsFartherThan_68 rfl (lv_at hl 3 rfl) ?_
                    refine lv_iload hx hb dX3_pairsFartherThan_69 (lv_at hl 4 rfl) ?_
                    obtain ⟨q23, hq23, hf⟩ := bd_e hf
                    refine k_iR (va_runV (C := RX3) (As := [.int x2, .int x9]) (rest := [.int x8, .ref (ad 83)]) ⟨hx, hb, hml, hown, hts⟩ (c_X3_nodesBelowOne (l := l) (sz := H.size) (p0 := x2) (p1 := x9) h19 h20 h81 hq23) (cwV 2 hts gX3_pairsFartherThan_X3_nodesBelowOne rfl rfl rfl (by decide +kernel) ⟨Nat.le_of_ble_eq_true rfl, Nat.le_of_ble_eq_true rfl⟩) (preV_of hK hP (by decide) h81 rfl) rfl rfl hl.1 rfl (lv_room (Nat.le_of_ble_eq_true rfl)) dX3_pairsFartherThan_71 ⟨Nat.le_refl _, Nat.le_refl _⟩) hA hP hS (fun H locs hP hS hbz_q23 => ?_)
                    obtain ⟨i25, f24, ef24, hf⟩ := wi_e hf
                    refine r_iast hx hb hK hI hAd hP hS (by decide) h83 i25 dX3_pairsFartherThan_74 ef24 (fun C H locs hP hS he hn => ?_)
                    have hag : ∀ i : Nat, i ≠ 83 → C i = C0 i := fun i h => (he i (by omega)).trans (hag i h)
                    have h5 := (he 5 (by decide)).trans h5
                    have h6 := (he 6 (by decide)).trans h6
                    have h8 := (he 8 (by decide)).trans h8
                    have h19 := (he 19 (by decide)).trans h19
                    have h20 := (he 20 (by decide)).trans h20
                    have h81 := (he 81 (by decide)).trans h81
                    have h83 : C 83 = aI g 66 f24 := hn
                    obtain ⟨x26, ex26, hf⟩ := lt_e hf
                    refine lv_iinc (v := x26) (lv' := [(2, .int x26), (0, .ref (ad 81)), (1, .int p0), (3, .int x2), (4, .int x9)]) hx hb dX3_pairsFartherThan_75 hl (k := 2) rfl (by rw [ex26]; rfl) (by decide) rfl (fun ls hl => ?_)
                    obtain rfl := Option.some.inj hf
                    exact jnq16 C H locs ls hP hS hag h5 h6 h8 h19 h20 h81 h83 (lv_sub hl [1, 2, 0, 3, 4] rfl)
        refine key13 _ (fun x11 x12 f13 C H locs ls hP hS hag h5 h6 h8 h19 h20 h81 h83 hl hf => ?_) FU x1 0 f3 C H locs ls hP hS hag h5 h6 h8 h19 h20 h81 h83 (lv_sub hl [1, 2, 3, 4, 0] rfl) hf
        obtain ⟨x27, ex27, hf⟩ := lt_e hf
        refine lv_iinc (v := x27) (lv' := [(3, .int x27), (0, .ref (ad 81)), (1, .int p0), (2, .int x11), (4, .int x12)]) hx hb dX3_pairsFartherThan_84 hl (k := 3) rfl (by rw [ex27]; rfl) (by decide) rfl (fun ls hl => ?_)
        refine lv_goto (tgt := 4) hx hb dX3_pairsFartherThan_87 (by decide) ?_
        exact ih x11 x27 f13 C H locs ls hP hS hag h5 h6 h8 h19 h20 h81 h83 (lv_sub hl [1, 2, 3, 0] rfl) hf
  refine key4 _ (fun x4 x5 f6 C H locs ls hP hS hag h5 h6 h8 h19 h20 h81 h83 hl hf => ?_) FU 0 0 l_unl C H locs ls hP hS hag h5 h6 h8 h19 h20 h81 h83 (lv_sub hl [2, 3, 1, 0] rfl) hf
  refine lv_iload_n hx hb dX3_pairsFartherThan_90 rfl (lv_at hl 2 rfl) ?_
  obtain rfl := Option.some.inj hf
  rw [← hQ]
  exact e_iW hx hb hr rfl (tP_i _) hP hS ⟨hag, h83⟩ hlocks dX3_pairsFartherThan_91

def LX3_tellsApart_2 (p0 : Int32) (p1 : Int32) (l_unl : Nat → Int32) (ko : Int32 → Option (Int32)) : Nat → Int32 → Option (Int32)
  | 0, _ => none
  | n + 1, x1 =>
    if p1 ≤ x1 then
      ko x1
    else
      ri l_unl 66 (x1) fun x4 =>
      if (x4 &&& p0) = 0 then
        some (0)
      else
        lt (x1 + 1 : Int32) fun x7 =>
        LX3_tellsApart_2 p0 p1 l_unl ko n x7
theorem LX3_tellsApart_2_z (p0 : Int32) (p1 : Int32) (l_unl : Nat → Int32) (ko : Int32 → Option (Int32)) (x1 : Int32) : LX3_tellsApart_2 p0 p1 l_unl ko 0 x1 = none := rfl
theorem LX3_tellsApart_2_s (p0 : Int32) (p1 : Int32) (l_unl : Nat → Int32) (ko : Int32 → Option (Int32)) (n : Nat) (x1 : Int32) : LX3_tellsApart_2 p0 p1 l_unl ko (n + 1) x1 =
    if p1 ≤ x1 then
      ko x1
    else
      ri l_unl 66 (x1) fun x4 =>
      if (x4 &&& p0) = 0 then
        some (0)
      else
        lt (x1 + 1 : Int32) fun x7 =>
        LX3_tellsApart_2 p0 p1 l_unl ko n x7 := rfl
def f_X3_tellsApart (p0 : Int32) (p1 : Int32) (l_unl : Nat → Int32) : Option (Int32) :=
  LX3_tellsApart_2 p0 p1 l_unl (fun x2 =>
    some (1)) FU 0
abbrev rmX3_tellsApart : Room := { frames := 0, cells := 0, slots := 0, locals := 0 }
set_option maxHeartbeats 4000000 in
set_option maxRecDepth 100000 in
theorem c_X3_tellsApart {l : Launch} {D : va_G} {g : Nat → ClassId} {ad : Nat → Nat} {C : Nat → va_E} {sz : Nat} {l_unl : Nat → Int32} {p0 : Int32} {p1 : Int32} {rr : Int32} (h81 : C 81 = .inr (3, [.ref (ad 5), .ref (ad 19), .ref (ad 82), .ref (ad 83)])) (h83 : C 83 = aI g 66 l_unl) (hf : f_X3_tellsApart p0 p1 l_unl = some rr) : Met l yX3_tellsApart wsX3_tellsApart rmX3_tellsApart (PcW D g 109 ad C sz [.ref (ad 81), .int p0, .int p1]) (QiR sz bz rr) 0 0 (An sz) := by
  refine Met.ofW (cc := cX3_tellsApart) (maxL := 4) (ret := (some .boolean)) (by decide) rfl ?_
  intro p e s m args below meth c s₁ B hml hv
  obtain ⟨hav, hsz, hK, hP⟩ := hv
  subst hsz
  have hx := B.exec
  have hb := B.bytes
  have hr := B.returns
  have hts := atoms_spec (ws := wsX3_tellsApart) B.pre
  have hown : s.vm.findClass RX3 = some m.cls := findClass_of_methodNamed B.named
  have hlocks := B.notSynchronized
  generalize hQ : MQ below (QiR s.heap.size bz rr) args s 0 0 (An s.heap.size) = QQ
  have hS : va_S (An s.heap.size) s.heap s.heap [] := va_S.rf
  have hA : ∀ q, s.heap.size ≤ q → (An s.heap.size) q := fun q h => h
  have k0 := hts (.fieldLink RX3 15 "UpDrain$Lids" "unlikeBy" "[I") (List.mem_of_getElem? (i := 1) rfl)
  have nX3 : ∀ w ∈ u_ws RX3 TX3 4, w ∈ wsX3_tellsApart := fun _ h => List.mem_cons_of_mem _ (List.mem_append_right _ h)
  have hE := lg_entry_eq m [.ref (ad 81), .int p0, .int p1] 4
  rw [← hav] at hE
  rw [hE]
  have hl := lv_entry [.ref (ad 81), .int p0, .int p1] (n := 4) (Nat.le_of_ble_eq_true rfl)
  generalize (lg_sl [.ref (ad 81), .int p0, .int p1] ++ List.replicate (4 - (lg_sl [.ref (ad 81), .int p0, .int p1]).length) Slot.unset).toArray = ls at hl ⊢
  have hl : lv_has ls 4 [(0, .ref (ad 81)), (1, .int p0), (2, .int p1)] := hl
  clear hE
  unfold f_X3_tellsApart at hf
  suffices hgo : ∀ (H : Heap) (locs : List Loc), va_P D vwCl (wd 109 ad C) H → va_S (An s.heap.size) s.heap H locs → W p l e (headSpec wsX3_tellsApart rmX3_tellsApart).room s m args below meth c H locs 0 0 QQ (F0 m 0 ls []) from hgo s.heap [] hP hS
  clear hS hP
  intro H locs hP hS
  refine lv_iconst (v := 0) hx hb dX3_tellsApart_0 (by decide) ?_
  refine lv_istore_n (lv' := [(3, .int 0), (0, .ref (ad 81)), (1, .int p0), (2, .int p1)]) hx hb dX3_tellsApart_1 rfl hl (by decide) rfl (fun ls hl => ?_)
  have key2 : ∀ (ko : Int32 → Option (Int32)), (∀ (x2 : Int32) (C : Nat → va_E) (H : Heap) (locs : List Loc) (ls : Array Slot), va_P D vwCl (wd 109 ad C) H → va_S (An s.heap.size) s.heap H locs → C 81 = .inr (3, [.ref (ad 5), .ref (ad 19), .ref (ad 82), .ref (ad 83)]) → C 83 = aI g 66 l_unl → lv_has ls 4 [(0, .ref (ad 81)), (1, .int p0), (2, .int p1), (3, .int x2)] → ko x2 = some rr → W p l e (headSpec wsX3_tellsApart rmX3_tellsApart).room s m args below meth c H locs 0 0 QQ (F0 m 26 ls [])) → ∀ (n : Nat) (x1 : Int32) (C : Nat → va_E) (H : Heap) (locs : List Loc) (ls : Array Slot), va_P D vwCl (wd 109 ad C) H → va_S (An s.heap.size) s.heap H locs → C 81 = .inr (3, [.ref (ad 5), .ref (ad 19), .ref (ad 82), .ref (ad 83)]) → C 83 = aI g 66 l_unl → lv_has ls 4 [(0, .ref (ad 81)), (1, .int p0), (2, .int p1), (3, .int x1)] → LX3_tellsApart_2 p0 p1 l_unl ko n x1 = some rr → W p l e (headSpec wsX3_tellsApart rmX3_tellsApart).room s m args below meth c H locs 0 0 QQ (F0 m 2 ls []) := by
    intro ko hko n
    induction n with
    | zero =>
      intro x1 C H locs ls hP hS h81 h83 hl hf
      rw [LX3_tellsApart_2_z] at hf
      cases hf
    | succ n ih =>
      intro x1 C H locs ls hP hS h81 h83 hl hf
      rw [LX3_tellsApart_2_s] at hf
      refine lv_iload_n hx hb dX3_tellsApart_2 rfl (lv_at hl 3 rfl) ?_
      refine lv_iload_n hx hb dX3_tellsApart_3 rfl (lv_at hl 2 rfl) ?_
      refine lv_icmp_ge (tgt := 26) hx hb dX3_tellsApart_4 (by decide) (fun c3 => ?_) (fun c3 => ?_)
      · have hf := it_e c3 hf
        exact hko x1 C H locs ls hP hS h81 h83 (lv_sub hl [0, 1, 2, 3] rfl) hf
      · have hf := ie_e c3 hf
        refine lv_aload_n hx hb dX3_tellsApart_7 rfl (lv_at hl 0 rfl) ?_
        refine r_get (own := RX3) (T := TX3) (n := 4) (ci := 3) (v := .ref (ad 83)) hx hb hts nX3 hown hK hP (by decide) h81 rfl 3 (by decide) k0 rfl dX3_tellsApart_8 ?_
        refine lv_iload_n hx hb dX3_tellsApart_11 rfl (lv_at hl 3 rfl) ?_
        obtain ⟨i5, x4, ex4, hf⟩ := ri_e hf
        refine r_iald hx hb hK hP (by decide) h83 i5 dX3_tellsApart_12 ex4 ?_
        refine lv_iload_n hx hb dX3_tellsApart_13 rfl (lv_at hl 1 rfl) ?_
        refine lv_iand hx hb dX3_tellsApart_14 ?_
        refine lv_if_ne (tgt := 20) hx hb dX3_tellsApart_15 (by decide) (fun c6 => ?_) (fun c6 => ?_)
        · have hf := ie_e c6 hf
          obtain ⟨x7, ex7, hf⟩ := lt_e hf
          refine lv_iinc (v := x7) (lv' := [(3, .int x7), (0, .ref (ad 81)), (1, .int p0), (2, .int p1)]) hx hb dX3_tellsApart_20 hl (k := 3) rfl (by rw [ex7]; rfl) (by decide) rfl (fun ls hl => ?_)
          refine lv_goto (tgt := 2) hx hb dX3_tellsApart_23 (by decide) ?_
          exact ih x7 C H locs ls hP hS h81 h83 (lv_sub hl [1, 2, 3, 0] rfl) hf
        · have hf := it_e c6 hf
          refine lv_iconst (v := 0) hx hb dX3_tellsApart_18 (by decide) ?_
          obtain rfl := Option.some.inj hf
          rw [← hQ]
          exact e_zR hx hb hr rfl bz0 hS hlocks dX3_tellsApart_19
  refine key2 _ (fun x2 C H locs ls hP hS h81 h83 hl hf => ?_) FU 0 C H locs ls hP hS h81 h83 (lv_sub hl [1, 2, 3, 0] rfl) hf
  refine lv_iconst (v := 1) hx hb dX3_tellsApart_26 (by decide) ?_
  obtain rfl := Option.some.inj hf
  rw [← hQ]
  exact e_zR hx hb hr rfl bz1 hS hlocks dX3_tellsApart_27

