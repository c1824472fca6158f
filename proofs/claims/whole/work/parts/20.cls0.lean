def f_X10_has (p0 : Int32) (p1 : Int32) : Option (Int32) :=
  if ((p0 >>> (p1 &&& 31)) &&& 1) = 0 then
    some (0)
  else
    some (1)
abbrev rmX10_has : Room := { frames := 0, cells := 0, slots := 0, locals := 0 }
set_option maxHeartbeats 4000000 in
set_option maxRecDepth 100000 in
theorem c_X10_has {l : Launch} {sz : Nat}  {p0 : Int32} {p1 : Int32} {rr : Int32} (hf : f_X10_has p0 p1 = some rr) : Met l yX10_has wsX10_has rmX10_has (PcS sz [.int p0, .int p1]) (QiR sz bz rr) 0 0 (An sz) := by
  refine Met.ofW (cc := cX10_has) (maxL := 2) (ret := (some .boolean)) (by decide) rfl ?_
  intro p e s m args below meth c s₁ B hml hv
  obtain ⟨hav, hsz⟩ := hv
  subst hsz
  have hx := B.exec
  have hb := B.bytes
  have hr := B.returns
  have hts := atoms_spec (ws := wsX10_has) B.pre
  have hown : s.vm.findClass RX10 = some m.cls := findClass_of_methodNamed B.named
  have hlocks := B.notSynchronized
  generalize hQ : MQ below (QiR s.heap.size bz rr) args s 0 0 (An s.heap.size) = QQ
  have hS : va_S (An s.heap.size) s.heap s.heap [] := va_S.rf
  have hA : ∀ q, s.heap.size ≤ q → (An s.heap.size) q := fun q h => h
  have hE := lg_entry_eq m [.int p0, .int p1] 2
  rw [← hav] at hE
  rw [hE]
  have hl := lv_entry [.int p0, .int p1] (n := 2) (Nat.le_of_ble_eq_true rfl)
  generalize (lg_sl [.int p0, .int p1] ++ List.replicate (2 - (lg_sl [.int p0, .int p1]).length) Slot.unset).toArray = ls at hl ⊢
  have hl : lv_has ls 2 [(0, .int p0), (1, .int p1)] := hl
  clear hE
  unfold f_X10_has at hf
  suffices hgo : ∀ (H : Heap) (locs : List Loc), va_S (An s.heap.size) s.heap H locs → W p l e (headSpec wsX10_has rmX10_has).room s m args below meth c H locs 0 0 QQ (F0 m 0 ls []) from hgo s.heap [] hS
  clear hS
  intro H locs hS
  refine lv_iload_n hx hb dX10_has_0 rfl (lv_at hl 0 rfl) ?_
  refine lv_iload_n hx hb dX10_has_1 rfl (lv_at hl 1 rfl) ?_
  refine lv_ishr hx hb dX10_has_2 ?_
  refine lv_iconst (v := 1) hx hb dX10_has_3 (by decide) ?_
  refine lv_iand hx hb dX10_has_4 ?_
  refine lv_if_eq (tgt := 12) hx hb dX10_has_5 (by decide) (fun c1 => ?_) (fun c1 => ?_)
  · have hf := it_e c1 hf
    refine lv_iconst (v := 0) hx hb dX10_has_12 (by decide) ?_
    obtain rfl := Option.some.inj hf
    rw [← hQ]
    exact e_zR hx hb hr rfl bz0 hS hlocks dX10_has_13
  · have hf := ie_e c1 hf
    refine lv_iconst (v := 1) hx hb dX10_has_8 (by decide) ?_
    refine lv_goto (tgt := 13) hx hb dX10_has_9 (by decide) ?_
    obtain rfl := Option.some.inj hf
    rw [← hQ]
    exact e_zR hx hb hr rfl bz1 hS hlocks dX10_has_13

def LX9_standOverAllBelow_4 (p0 : Int32) (t_down : Nat → Int32) (ko : Int32 → Int32 → (Nat → Int32) → Option ((Nat → Int32))) : Nat → Int32 → Int32 → (Nat → Int32) → Option ((Nat → Int32))
  | 0, _, _, _ => none
  | n + 1, x1, x2, f3 =>
    if 12 ≤ x2 then
      ko x1 x2 f3
    else
      if x1 < 0 then
        ko x1 x2 f3
      else
        ri f3 12 (x1) fun x9 =>
        wi f3 12 (x1) ((x9 ||| (1 <<< (p0 &&& 31)))) fun f11 =>
        ri t_down 12 (x1) fun x13 =>
        lt (x2 + 1 : Int32) fun x15 =>
        LX9_standOverAllBelow_4 p0 t_down ko n x13 x15 f11
theorem LX9_standOverAllBelow_4_z (p0 : Int32) (t_down : Nat → Int32) (ko : Int32 → Int32 → (Nat → Int32) → Option ((Nat → Int32))) (x1 : Int32) (x2 : Int32) (f3 : Nat → Int32) : LX9_standOverAllBelow_4 p0 t_down ko 0 x1 x2 f3 = none := rfl
theorem LX9_standOverAllBelow_4_s (p0 : Int32) (t_down : Nat → Int32) (ko : Int32 → Int32 → (Nat → Int32) → Option ((Nat → Int32))) (n : Nat) (x1 : Int32) (x2 : Int32) (f3 : Nat → Int32) : LX9_standOverAllBelow_4 p0 t_down ko (n + 1) x1 x2 f3 =
    if 12 ≤ x2 then
      ko x1 x2 f3
    else
      if x1 < 0 then
        ko x1 x2 f3
      else
        ri f3 12 (x1) fun x9 =>
        wi f3 12 (x1) ((x9 ||| (1 <<< (p0 &&& 31)))) fun f11 =>
        ri t_down 12 (x1) fun x13 =>
        lt (x2 + 1 : Int32) fun x15 =>
        LX9_standOverAllBelow_4 p0 t_down ko n x13 x15 f11 := rfl
def f_X9_standOverAllBelow (p0 : Int32) (t_down : Nat → Int32) (w_over : Nat → Int32) : Option ((Nat → Int32)) :=
  LX9_standOverAllBelow_4 p0 t_down (fun x4 x5 f6 =>
    some (f6)) FU p0 0 w_over
abbrev rmX9_standOverAllBelow : Room := { frames := 0, cells := 0, slots := 0, locals := 0 }
set_option maxHeartbeats 4000000 in
set_option maxRecDepth 100000 in
theorem c_X9_standOverAllBelow {l : Launch} {D : va_G} {g : Nat → ClassId} {N : Nat} {ad : Nat → Nat} {C : Nat → va_E} {sz : Nat} {t_there : Int32} {t_lift : Int32} {t_none : Int32} {t_down : Nat → Int32} {w_src : Int32} {w_over : Nat → Int32} {p0 : Int32} {rr : (Nat → Int32)} (hN : 86 ≤ N) (hI : Inj N ad) (h5 : C 5 = .inr (7, [.ref (ad 6), .ref (ad 7), .ref (ad 8), .ref (ad 9), .ref (ad 10), .ref (ad 11), .ref (ad 12), .ref (ad 13), .ref (ad 14), .ref (ad 15), .ref (ad 16), .ref (ad 17), .ref (ad 18), .int t_there, .int t_lift, .int t_none])) (h6 : C 6 = aI g 12 t_down) (h19 : C 19 = .inr (9, [.ref (ad 5), .ref (ad 20), .int w_src])) (h20 : C 20 = aI g 12 w_over) (hf : f_X9_standOverAllBelow p0 t_down w_over = some rr) : Met l yX9_standOverAllBelow wsX9_standOverAllBelow rmX9_standOverAllBelow (PcW D g N ad C sz [.ref (ad 19), .int p0]) (QvW D N ad sz (fun C' => (∀ i : Nat, i ≠ 20 → C' i = C i) ∧ (C' 20 = aI g 12 rr))) 0 0 (Aw N ad sz) := by
  refine Met.ofW (cc := cX9_standOverAllBelow) (maxL := 4) (ret := none) (by decide) rfl ?_
  intro p e s m args below meth c s₁ B hml hv
  obtain ⟨hav, hsz, hK, hP⟩ := hv
  subst hsz
  have hx := B.exec
  have hb := B.bytes
  have hr := B.returns
  have hts := atoms_spec (ws := wsX9_standOverAllBelow) B.pre
  have hown : s.vm.findClass RX9 = some m.cls := findClass_of_methodNamed B.named
  have hlocks := B.notSynchronized
  generalize hQ : MQ below (QvW D N ad s.heap.size (fun C' => (∀ i : Nat, i ≠ 20 → C' i = C i) ∧ (C' 20 = aI g 12 rr))) args s 0 0 (Aw N ad s.heap.size) = QQ
  have hS : va_S (Aw N ad s.heap.size) s.heap s.heap [] := va_S.rf
  have hA : ∀ q, s.heap.size ≤ q → (Aw N ad s.heap.size) q := fun q h => Or.inr h
  have hAd : ∀ j : Nat, j < N → (Aw N ad s.heap.size) (ad j) := fun j h => Or.inl ⟨j, h, rfl⟩
  obtain ⟨C0, hC0⟩ : ∃ C0 : Nat → va_E, C0 = C := ⟨_, rfl⟩
  have hag : ∀ i : Nat, i ≠ 20 → C i = C0 i := fun i _ => by rw [hC0]
  rw [← hC0] at hQ
  have k0 := hts (.fieldLink RX9 9 "UpDrain$Ways" "over" "[I") (List.mem_of_getElem? (i := 1) rfl)
  have nX9 : ∀ w ∈ u_ws RX9 TX9 3, w ∈ wsX9_standOverAllBelow := fun _ h => List.mem_cons_of_mem _ (List.mem_append_left _ (List.mem_append_right _ h))
  have k2 := hts (.fieldLink RX9 15 "UpDrain$Ways" "plan" "LUpDrain$Town;") (List.mem_of_getElem? (i := 2) rfl)
  have k3 := nf_5 (A := args) hK
  have nX7 : ∀ w ∈ u_ws RX7 TX7 16, w ∈ wsX9_standOverAllBelow := fun _ h => List.mem_cons_of_mem _ (List.mem_append_right _ h)
  have hE := lg_entry_eq m [.ref (ad 19), .int p0] 4
  rw [← hav] at hE
  rw [hE]
  have hl := lv_entry [.ref (ad 19), .int p0] (n := 4) (Nat.le_of_ble_eq_true rfl)
  generalize (lg_sl [.ref (ad 19), .int p0] ++ List.replicate (4 - (lg_sl [.ref (ad 19), .int p0]).length) Slot.unset).toArray = ls at hl ⊢
  have hl : lv_has ls 4 [(0, .ref (ad 19)), (1, .int p0)] := hl
  clear hE
  unfold f_X9_standOverAllBelow at hf
  suffices hgo : ∀ (H : Heap) (locs : List Loc), va_P D vwCl (wd N ad C) H → va_S (Aw N ad s.heap.size) s.heap H locs → W p l e (headSpec wsX9_standOverAllBelow rmX9_standOverAllBelow).room s m args below meth c H locs 0 0 QQ (F0 m 0 ls []) from hgo s.heap [] hP hS
  clear hS hP
  intro H locs hP hS
  refine lv_iload_n hx hb dX9_standOverAllBelow_0 rfl (lv_at hl 1 rfl) ?_
  refine lv_istore_n (lv' := [(2, .int p0), (0, .ref (ad 19)), (1, .int p0)]) hx hb dX9_standOverAllBelow_1 rfl hl (by decide) rfl (fun ls hl => ?_)
  refine lv_iconst (v := 0) hx hb dX9_standOverAllBelow_2 (by decide) ?_
  refine lv_istore_n (lv' := [(3, .int 0), (2, .int p0), (0, .ref (ad 19)), (1, .int p0)]) hx hb dX9_standOverAllBelow_3 rfl hl (by decide) rfl (fun ls hl => ?_)
  have key4 : ∀ (ko : Int32 → Int32 → (Nat → Int32) → Option ((Nat → Int32))), (∀ (x4 : Int32) (x5 : Int32) (f6 : Nat → Int32) (C : Nat → va_E) (H : Heap) (locs : List Loc) (ls : Array Slot), va_P D vwCl (wd N ad C) H → va_S (Aw N ad s.heap.size) s.heap H locs → (∀ i : Nat, i ≠ 20 → C i = C0 i) → C 5 = .inr (7, [.ref (ad 6), .ref (ad 7), .ref (ad 8), .ref (ad 9), .ref (ad 10), .ref (ad 11), .ref (ad 12), .ref (ad 13), .ref (ad 14), .ref (ad 15), .ref (ad 16), .ref (ad 17), .ref (ad 18), .int t_there, .int t_lift, .int t_none]) → C 6 = aI g 12 t_down → C 19 = .inr (9, [.ref (ad 5), .ref (ad 20), .int w_src]) → C 20 = aI g 12 f6 → lv_has ls 4 [(0, .ref (ad 19)), (1, .int p0), (2, .int x4), (3, .int x5)] → ko x4 x5 f6 = some rr → W p l e (headSpec wsX9_standOverAllBelow rmX9_standOverAllBelow).room s m args below meth c H locs 0 0 QQ (F0 m 42 ls [])) → ∀ (n : Nat) (x1 : Int32) (x2 : Int32) (f3 : Nat → Int32) (C : Nat → va_E) (H : Heap) (locs : List Loc) (ls : Array Slot), va_P D vwCl (wd N ad C) H → va_S (Aw N ad s.heap.size) s.heap H locs → (∀ i : Nat, i ≠ 20 → C i = C0 i) → C 5 = .inr (7, [.ref (ad 6), .ref (ad 7), .ref (ad 8), .ref (ad 9), .ref (ad 10), .ref (ad 11), .ref (ad 12), .ref (ad 13), .ref (ad 14), .ref (ad 15), .ref (ad 16), .ref (ad 17), .ref (ad 18), .int t_there, .int t_lift, .int t_none]) → C 6 = aI g 12 t_down → C 19 = .inr (9, [.ref (ad 5), .ref (ad 20), .int w_src]) → C 20 = aI g 12 f3 → lv_has ls 4 [(0, .ref (ad 19)), (1, .int p0), (2, .int x1), (3, .int x2)] → LX9_standOverAllBelow_4 p0 t_down ko n x1 x2 f3 = some rr → W p l e (headSpec wsX9_standOverAllBelow rmX9_standOverAllBelow).room s m args below meth c H locs 0 0 QQ (F0 m 4 ls []) := by
    intro ko hko n
    induction n with
    | zero =>
      intro x1 x2 f3 C H locs ls hP hS hag h5 h6 h19 h20 hl hf
      rw [LX9_standOverAllBelow_4_z] at hf
      cases hf
    | succ n ih =>
      intro x1 x2 f3 C H locs ls hP hS hag h5 h6 h19 h20 hl hf
      rw [LX9_standOverAllBelow_4_s] at hf
      refine lv_iload_n hx hb dX9_standOverAllBelow_4 rfl (lv_at hl 3 rfl) ?_
      refine lv_bipush (v := 12) hx hb dX9_standOverAllBelow_5 (by decide) ?_
      refine lv_icmp_ge (tgt := 42) hx hb dX9_standOverAllBelow_7 (by decide) (fun c7 => ?_) (fun c7 => ?_)
      · have hf := it_e c7 hf
        exact hko x1 x2 f3 C H locs ls hP hS hag h5 h6 h19 h20 (lv_sub hl [0, 1, 2, 3] rfl) hf
      · have hf := ie_e c7 hf
        refine lv_iload_n hx hb dX9_standOverAllBelow_10 rfl (lv_at hl 2 rfl) ?_
        refine lv_if_lt (tgt := 42) hx hb dX9_standOverAllBelow_11 (by decide) (fun c8 => ?_) (fun c8 => ?_)
        · have hf := it_e c8 hf
          exact hko x1 x2 f3 C H locs ls hP hS hag h5 h6 h19 h20 (lv_sub hl [0, 1, 2, 3] rfl) hf
        · have hf := ie_e c8 hf
          refine lv_aload_n hx hb dX9_standOverAllBelow_14 rfl (lv_at hl 0 rfl) ?_
          refine r_get (own := RX9) (T := TX9) (n := 3) (ci := 9) (v := .ref (ad 20)) hx hb hts nX9 hown hK hP (by omega) h19 rfl 1 (by decide) k0 rfl dX9_standOverAllBelow_15 ?_
          refine lv_iload_n hx hb dX9_standOverAllBelow_18 rfl (lv_at hl 2 rfl) ?_
          refine lv_dup2_11 hx hb dX9_standOverAllBelow_19 rfl rfl ?_
          obtain ⟨i10, x9, ex9, hf⟩ := ri_e hf
          refine r_iald hx hb hK hP (by omega) h20 i10 dX9_standOverAllBelow_20 ex9 ?_
          refine lv_iconst (v := 1) hx hb dX9_standOverAllBelow_21 (by decide) ?_
          refine lv_iload_n hx hb dX9_standOverAllBelow_22 rfl (lv_at hl 1 rfl) ?_
          refine lv_ishl hx hb dX9_standOverAllBelow_23 ?_
          refine lv_ior hx hb dX9_standOverAllBelow_24 ?_
          obtain ⟨i12, f11, ef11, hf⟩ := wi_e hf
          refine r_iast hx hb hK hI hAd hP hS (by omega) h20 i12 dX9_standOverAllBelow_25 ef11 (fun C H locs hP hS he hn => ?_)
          have hag : ∀ i : Nat, i ≠ 20 → C i = C0 i := fun i h => (he i (by omega)).trans (hag i h)
          have h5 := (he 5 (by decide)).trans h5
          have h6 := (he 6 (by decide)).trans h6
          have h19 := (he 19 (by decide)).trans h19
          have h20 : C 20 = aI g 12 f11 := hn
          refine lv_aload_n hx hb dX9_standOverAllBelow_26 rfl (lv_at hl 0 rfl) ?_
          refine r_get (own := RX9) (T := TX9) (n := 3) (ci := 9) (v := .ref (ad 5)) hx hb hts nX9 hown hK hP (by omega) h19 rfl 0 (by decide) k2 rfl dX9_standOverAllBelow_27 ?_
          refine r_getN (own := RX9) (T := TX7) (n := 16) (ci := 7) (v := .ref (ad 6)) hx hb hts nX7 hown hK hP (by omega) h5 rfl 0 (by decide) k3 rfl dX9_standOverAllBelow_30 ?_
          refine lv_iload_n hx hb dX9_standOverAllBelow_33 rfl (lv_at hl 2 rfl) ?_
          obtain ⟨i14, x13, ex13, hf⟩ := ri_e hf
          refine r_iald hx hb hK hP (by omega) h6 i14 dX9_standOverAllBelow_34 ex13 ?_
          refine lv_istore_n (lv' := [(2, .int x13), (0, .ref (ad 19)), (1, .int p0), (3, .int x2)]) hx hb dX9_standOverAllBelow_35 rfl hl (by decide) rfl (fun ls hl => ?_)
          obtain ⟨x15, ex15, hf⟩ := lt_e hf
          refine lv_iinc (v := x15) (lv' := [(3, .int x15), (2, .int x13), (0, .ref (ad 19)), (1, .int p0)]) hx hb dX9_standOverAllBelow_36 hl (k := 3) rfl (by rw [ex15]; rfl) (by decide) rfl (fun ls hl => ?_)
          refine lv_goto (tgt := 4) hx hb dX9_standOverAllBelow_39 (by decide) ?_
          exact ih x13 x15 f11 C H locs ls hP hS hag h5 h6 h19 h20 (lv_sub hl [2, 3, 1, 0] rfl) hf
  refine key4 _ (fun x4 x5 f6 C H locs ls hP hS hag h5 h6 h19 h20 hl hf => ?_) FU p0 0 w_over C H locs ls hP hS hag h5 h6 h19 h20 (lv_sub hl [2, 3, 1, 0] rfl) hf
  obtain rfl := Option.some.inj hf
  rw [← hQ]
  exact e_vW hx hb hr hP hS ⟨hag, h20⟩ hlocks dX9_standOverAllBelow_42

def LX9_renew_7  (ko : Int32 → (Nat → Int32) → Option (Int32 × (Nat → Int32))) : Nat → Int32 → (Nat → Int32) → Option (Int32 × (Nat → Int32))
  | 0, _, _ => none
  | n + 1, x1, f2 =>
    if 12 ≤ x1 then
      ko x1 f2
    else
      wi f2 12 (x1) (0) fun f6 =>
      lt (x1 + 1 : Int32) fun x8 =>
      LX9_renew_7 ko n x8 f6
theorem LX9_renew_7_z  (ko : Int32 → (Nat → Int32) → Option (Int32 × (Nat → Int32))) (x1 : Int32) (f2 : Nat → Int32) : LX9_renew_7  ko 0 x1 f2 = none := rfl
theorem LX9_renew_7_s  (ko : Int32 → (Nat → Int32) → Option (Int32 × (Nat → Int32))) (n : Nat) (x1 : Int32) (f2 : Nat → Int32) : LX9_renew_7  ko (n + 1) x1 f2 =
    if 12 ≤ x1 then
      ko x1 f2
    else
      wi f2 12 (x1) (0) fun f6 =>
      lt (x1 + 1 : Int32) fun x8 =>
      LX9_renew_7 ko n x8 f6 := rfl
def LX9_renew_28 (t_down : Nat → Int32) (t_lik : Nat → Int32) (t_there : Int32) (ko : Int32 → (Nat → Int32) → Int32 → Option (Int32 × (Nat → Int32))) : Nat → Int32 → (Nat → Int32) → Int32 → Option (Int32 × (Nat → Int32))
  | 0, _, _, _ => none
  | n + 1, x9, f10, x11 =>
    if 12 ≤ x9 then
      ko x9 f10 x11
    else
      (f_X10_has t_there x9).bind fun q16 =>
      (if q16 = 0 then
        some (f10, x11)
      else
        (f_X9_standOverAllBelow x9 t_down f10).bind fun q20 =>
        ri t_lik 12 (x9) fun x21 =>
        (if x21 ≤ 0 then
          some (0)
        else
          some ((1 <<< (x9 &&& 31))) : Option (Int32)).bind fun q23 =>
        lt ((x11 ||| q23) : Int32) fun x24 =>
        some (q20, x24) : Option ((Nat → Int32) × Int32)).bind fun q17 =>
      lt (x9 + 1 : Int32) fun x18 =>
      LX9_renew_28 t_down t_lik t_there ko n x18 q17.1 q17.2
theorem LX9_renew_28_z (t_down : Nat → Int32) (t_lik : Nat → Int32) (t_there : Int32) (ko : Int32 → (Nat → Int32) → Int32 → Option (Int32 × (Nat → Int32))) (x9 : Int32) (f10 : Nat → Int32) (x11 : Int32) : LX9_renew_28 t_down t_lik t_there ko 0 x9 f10 x11 = none := rfl
theorem LX9_renew_28_s (t_down : Nat → Int32) (t_lik : Nat → Int32) (t_there : Int32) (ko : Int32 → (Nat → Int32) → Int32 → Option (Int32 × (Nat → Int32))) (n : Nat) (x9 : Int32) (f10 : Nat → Int32) (x11 : Int32) : LX9_renew_28 t_down t_lik t_there ko (n + 1) x9 f10 x11 =
    if 12 ≤ x9 then
      ko x9 f10 x11
    else
      (f_X10_has t_there x9).bind fun q16 =>
      (if q16 = 0 then
        some (f10, x11)
      else
        (f_X9_standOverAllBelow x9 t_down f10).bind fun q20 =>
        ri t_lik 12 (x9) fun x21 =>
        (if x21 ≤ 0 then
          some (0)
        else
          some ((1 <<< (x9 &&& 31))) : Option (Int32)).bind fun q23 =>
        lt ((x11 ||| q23) : Int32) fun x24 =>
        some (q20, x24) : Option ((Nat → Int32) × Int32)).bind fun q17 =>
      lt (x9 + 1 : Int32) fun x18 =>
      LX9_renew_28 t_down t_lik t_there ko n x18 q17.1 q17.2 := rfl
def f_X9_renew (t_down : Nat → Int32) (t_lik : Nat → Int32) (t_there : Int32) (w_src : Int32) (w_over : Nat → Int32) : Option (Int32 × (Nat → Int32)) :=
  LX9_renew_7  (fun x3 f4 =>
    LX9_renew_28 t_down t_lik t_there (fun x12 f13 x14 =>
      some (x14, f13)) FU 0 f4 0) FU 0 w_over
abbrev rmX9_renew : Room := { frames := 1, cells := 0, slots := 0, locals := 23 }
set_option maxHeartbeats 4000000 in
set_option maxRecDepth 100000 in
theorem c_X9_renew {l : Launch} {D : va_G} {g : Nat → ClassId} {N : Nat} {ad : Nat → Nat} {C : Nat → va_E} {sz : Nat} {t_there : Int32} {t_lift : Int32} {t_none : Int32} {t_down : Nat → Int32} {t_lik : Nat → Int32} {w_src : Int32} {w_over : Nat → Int32}  {rr : Int32 × (Nat → Int32)} (hN : 86 ≤ N) (hI : Inj N ad) (h5 : C 5 = .inr (7, [.ref (ad 6), .ref (ad 7), .ref (ad 8), .ref (ad 9), .ref (ad 10), .ref (ad 11), .ref (ad 12), .ref (ad 13), .ref (ad 14), .ref (ad 15), .ref (ad 16), .ref (ad 17), .ref (ad 18), .int t_there, .int t_lift, .int t_none])) (h6 : C 6 = aI g 12 t_down) (h11 : C 11 = aI g 12 t_lik) (h19 : C 19 = .inr (9, [.ref (ad 5), .ref (ad 20), .int w_src])) (h20 : C 20 = aI g 12 w_over) (hf : f_X9_renew t_down t_lik t_there w_src w_over = some rr) : Met l yX9_renew wsX9_renew rmX9_renew (PcW D g N ad C sz [.ref (ad 19)]) (QvW D N ad sz (fun C' => (∀ i : Nat, i ≠ 19 ∧ i ≠ 20 → C' i = C i) ∧ (C' 19 = .inr (9, [.ref (ad 5), .ref (ad 20), .int rr.1])) ∧ (C' 20 = aI g 12 rr.2))) 0 0 (Aw N ad sz) := by
  refine Met.ofW (cc := cX9_renew) (maxL := 2) (ret := none) (by decide) rfl ?_
  intro p e s m args below meth c s₁ B hml hv
  obtain ⟨hav, hsz, hK, hP⟩ := hv
  subst hsz
  have hx := B.exec
  have hb := B.bytes
  have hr := B.returns
  have hts := atoms_spec (ws := wsX9_renew) B.pre
  have hown : s.vm.findClass RX9 = some m.cls := findClass_of_methodNamed B.named
  have hlocks := B.notSynchronized
  generalize hQ : MQ below (QvW D N ad s.heap.size (fun C' => (∀ i : Nat, i ≠ 19 ∧ i ≠ 20 → C' i = C i) ∧ (C' 19 = .inr (9, [.ref (ad 5), .ref (ad 20), .int rr.1])) ∧ (C' 20 = aI g 12 rr.2))) args s 0 0 (Aw N ad s.heap.size) = QQ
  have hS : va_S (Aw N ad s.heap.size) s.heap s.heap [] := va_S.rf
  have hA : ∀ q, s.heap.size ≤ q → (Aw N ad s.heap.size) q := fun q h => Or.inr h
  have hAd : ∀ j : Nat, j < N → (Aw N ad s.heap.size) (ad j) := fun j h => Or.inl ⟨j, h, rfl⟩
  obtain ⟨C0, hC0⟩ : ∃ C0 : Nat → va_E, C0 = C := ⟨_, rfl⟩
  have hag : ∀ i : Nat, i ≠ 19 ∧ i ≠ 20 → C i = C0 i := fun i _ => by rw [hC0]
  rw [← hC0] at hQ
  have k0 := hts (.fieldLink RX9 19 "UpDrain$Ways" "sources" "I") (List.mem_of_getElem? (i := 1) rfl)
  have nX9 : ∀ w ∈ u_ws RX9 TX9 3, w ∈ wsX9_renew := fun _ h => List.mem_cons_of_mem _ (List.mem_append_left _ (List.mem_append_right _ h))
  have k2 := hts (.fieldLink RX9 9 "UpDrain$Ways" "over" "[I") (List.mem_of_getElem? (i := 2) rfl)
  have k3 := hts (.fieldLink RX9 15 "UpDrain$Ways" "plan" "LUpDrain$Town;") (List.mem_of_getElem? (i := 3) rfl)
  have k4 := nf_37 (A := args) hK
  have nX7 : ∀ w ∈ u_ws RX7 TX7 16, w ∈ wsX9_renew := fun _ h => List.mem_cons_of_mem _ (List.mem_append_right _ h)
  have k6 := nm_5 hK
  have k7 := hts (.initialized RX10) (List.mem_of_getElem? (i := 5) rfl)
  have k8 := hts (.static yX10_has) (List.mem_of_getElem? (i := 4) rfl)
  have k9 := nf_17 (A := args) hK
  have hE := lg_entry_eq m [.ref (ad 19)] 2
  rw [← hav] at hE
  rw [hE]
  have hl := lv_entry [.ref (ad 19)] (n := 2) (Nat.le_of_ble_eq_true rfl)
  generalize (lg_sl [.ref (ad 19)] ++ List.replicate (2 - (lg_sl [.ref (ad 19)]).length) Slot.unset).toArray = ls at hl ⊢
  have hl : lv_has ls 2 [(0, .ref (ad 19))] := hl
  clear hE
  unfold f_X9_renew at hf
  suffices hgo : ∀ (H : Heap) (locs : List Loc), va_P D vwCl (wd N ad C) H → va_S (Aw N ad s.heap.size) s.heap H locs → W p l e (headSpec wsX9_renew rmX9_renew).room s m args below meth c H locs 0 0 QQ (F0 m 0 ls []) from hgo s.heap [] hP hS
  clear hS hP
  intro H locs hP hS
  refine lv_aload_n hx hb dX9_renew_0 rfl (lv_at hl 0 rfl) ?_
  refine lv_iconst (v := 0) hx hb dX9_renew_1 (by decide) ?_
  refine r_put (own := RX9) (T := TX9) (n := 3) (ci := 9) (v := .int 0) hx hb hts nX9 tyX9 tyX9_ok nmX9 hown hK hI hAd hP hS (by omega) h19 rfl 2 (by decide) k0 rfl rfl rfl (Nat.le_of_ble_eq_true rfl) dX9_renew_2 (fun C H locs hP hS he hn => ?_)
  have hag : ∀ i : Nat, i ≠ 19 ∧ i ≠ 20 → C i = C0 i := fun i h => (he i (by omega)).trans (hag i h)
  have h5 := (he 5 (by decide)).trans h5
  have h6 := (he 6 (by decide)).trans h6
  have h11 := (he 11 (by decide)).trans h11
  have h20 := (he 20 (by decide)).trans h20
  have h19 : C 19 = .inr (9, [.ref (ad 5), .ref (ad 20), .int 0]) := hn
  refine lv_iconst (v := 0) hx hb dX9_renew_5 (by decide) ?_
  refine lv_istore_n (lv' := [(1, .int 0), (0, .ref (ad 19))]) hx hb dX9_renew_6 rfl hl (by decide) rfl (fun ls hl => ?_)
  have key7 : ∀ (ko : Int32 → (Nat → Int32) → Option (Int32 × (Nat → Int32))), (∀ (x3 : Int32) (f4 : Nat → Int32) (C : Nat → va_E) (H : Heap) (locs : List Loc) (ls : Array Slot), va_P D vwCl (wd N ad C) H → va_S (Aw N ad s.heap.size) s.heap H locs → (∀ i : Nat, i ≠ 19 ∧ i ≠ 20 → C i = C0 i) → C 5 = .inr (7, [.ref (ad 6), .ref (ad 7), .ref (ad 8), .ref (ad 9), .ref (ad 10), .ref (ad 11), .ref (ad 12), .ref (ad 13), .ref (ad 14), .ref (ad 15), .ref (ad 16), .ref (ad 17), .ref (ad 18), .int t_there, .int t_lift, .int t_none]) → C 6 = aI g 12 t_down → C 11 = aI g 12 t_lik → C 19 = .inr (9, [.ref (ad 5), .ref (ad 20), .int 0]) → C 20 = aI g 12 f4 → lv_has ls 2 [(0, .ref (ad 19)), (1, .int x3)] → ko x3 f4 = some rr → W p l e (headSpec wsX9_renew rmX9_renew).room s m args below meth c H locs 0 0 QQ (F0 m 26 ls [])) → ∀ (n : Nat) (x1 : Int32) (f2 : Nat → Int32) (C : Nat → va_E) (H : Heap) (locs : List Loc) (ls : Array Slot), va_P D vwCl (wd N ad C) H → va_S (Aw N ad s.heap.size) s.heap H locs → (∀ i : Nat, i ≠ 19 ∧ i ≠ 20 → C i = C0 i) → C 5 = .inr (7, [.ref (ad 6), .ref (ad 7), .ref (ad 8), .ref (ad 9), .ref (ad 10), .ref (ad 11), .ref (ad 12), .ref (ad 13), .ref (ad 14), .ref (ad 15), .ref (ad 16), .ref (ad 17), .ref (ad 18), .int t_there, .int t_lift, .int t_none]) → C 6 = aI g 12 t_down → C 11 = aI g 12 t_lik → C 19 = .inr (9, [.ref (ad 5), .ref (ad 20), .int 0]) → C 20 = aI g 12 f2 → lv_has ls 2 [(0, .ref (ad 19)), (1, .int x1)] → LX9_renew_7  ko n x1 f2 = some rr → W p l e (headSpec wsX9_renew rmX9_renew).room s m args below meth c H locs 0 0 QQ (F0 m 7 ls []) := by
    intro ko hko n
    induction n with
    | zero =>
      intro x1 f2 C H locs ls hP hS hag h5 h6 h11 h19 h20 hl hf
      rw [LX9_renew_7_z] at hf
      cases hf
    | succ n ih =>
      intro x1 f2 C H locs ls hP hS hag h5 h6 h11 h19 h20 hl hf
      rw [LX9_renew_7_s] at hf
      refine lv_iload_n hx hb dX9_renew_7 rfl (lv_at hl 1 rfl) ?_
      refine lv_bipush (v := 12) hx hb dX9_renew_8 (by decide) ?_
      refine lv_icmp_ge (tgt := 26) hx hb dX9_renew_10 (by decide) (fun c5 => ?_) (fun c5 => ?_)
      · have hf := it_e c5 hf
        exact hko x1 f2 C H locs ls hP hS hag h5 h6 h11 h19 h20 (lv_sub hl [0, 1] rfl) hf
      · have hf := ie_e c5 hf
        refine lv_aload_n hx hb dX9_renew_13 rfl (lv_at hl 0 rfl) ?_
        refine r_get (own := RX9) (T := TX9) (n := 3) (ci := 9) (v := .ref (ad 20)) hx hb hts nX9 hown hK hP (by omega) h19 rfl 1 (by decide) k2 rfl dX9_renew_14 ?_
        refine lv_iload_n hx hb dX9_renew_17 rfl (lv_at hl 1 rfl) ?_
        refine lv_iconst (v := 0) hx hb dX9_renew_18 (by decide) ?_
        obtain ⟨i7, f6, ef6, hf⟩ := wi_e hf
        refine r_iast hx hb hK hI hAd hP hS (by omega) h20 i7 dX9_renew_19 ef6 (fun C H locs hP hS he hn => ?_)
        have hag : ∀ i : Nat, i ≠ 19 ∧ i ≠ 20 → C i = C0 i := fun i h => (he i (by omega)).trans (hag i h)
        have h5 := (he 5 (by decide)).trans h5
        have h6 := (he 6 (by decide)).trans h6
        have h11 := (he 11 (by decide)).trans h11
        have h19 := (he 19 (by decide)).trans h19
        have h20 : C 20 = aI g 12 f6 := hn
        obtain ⟨x8, ex8, hf⟩ := lt_e hf
        refine lv_iinc (v := x8) (lv' := [(1, .int x8), (0, .ref (ad 19))]) hx hb dX9_renew_20 hl (k := 1) rfl (by rw [ex8]; rfl) (by decide) rfl (fun ls hl => ?_)
        refine lv_goto (tgt := 7) hx hb dX9_renew_23 (by decide) ?_
        exact ih x8 f6 C H locs ls hP hS hag h5 h6 h11 h19 h20 (lv_sub hl [1, 0] rfl) hf
  refine key7 _ (fun x3 f4 C H locs ls hP hS hag h5 h6 h11 h19 h20 hl hf => ?_) FU 0 w_over C H locs ls hP hS hag h5 h6 h11 h19 h20 (lv_sub hl [1, 0] rfl) hf
  refine lv_iconst (v := 0) hx hb dX9_renew_26 (by decide) ?_
  refine lv_istore_n (lv' := [(1, .int 0), (0, .ref (ad 19))]) hx hb dX9_renew_27 rfl hl (by decide) rfl (fun ls hl => ?_)
  have key28 : ∀ (ko : Int32 → (Nat → Int32) → Int32 → Option (Int32 × (Nat → Int32))), (∀ (x12 : Int32) (f13 : Nat → Int32) (x14 : Int32) (C : Nat → va_E) (H : Heap) (locs : List Loc) (ls : Array Slot), va_P D vwCl (wd N ad C) H → va_S (Aw N ad s.heap.size) s.heap H locs → (∀ i : Nat, i ≠ 19 ∧ i ≠ 20 → C i = C0 i) → C 5 = .inr (7, [.ref (ad 6), .ref (ad 7), .ref (ad 8), .ref (ad 9), .ref (ad 10), .ref (ad 11), .ref (ad 12), .ref (ad 13), .ref (ad 14), .ref (ad 15), .ref (ad 16), .ref (ad 17), .ref (ad 18), .int t_there, .int t_lift, .int t_none]) → C 6 = aI g 12 t_down → C 11 = aI g 12 t_lik → C 19 = .inr (9, [.ref (ad 5), .ref (ad 20), .int x14]) → C 20 = aI g 12 f13 → lv_has ls 2 [(0, .ref (ad 19)), (1, .int x12)] → ko x12 f13 x14 = some rr → W p l e (headSpec wsX9_renew rmX9_renew).room s m args below meth c H locs 0 0 QQ (F0 m 87 ls [])) → ∀ (n : Nat) (x9 : Int32) (f10 : Nat → Int32) (x11 : Int32) (C : Nat → va_E) (H : Heap) (locs : List Loc) (ls : Array Slot), va_P D vwCl (wd N ad C) H → va_S (Aw N ad s.heap.size) s.heap H locs → (∀ i : Nat, i ≠ 19 ∧ i ≠ 20 → C i = C0 i) → C 5 = .inr (7, [.ref (ad 6), .ref (ad 7), .ref (ad 8), .ref (ad 9), .ref (ad 10), .ref (ad 11), .ref (ad 12), .ref (ad 13), .ref (ad 14), .ref (ad 15), .ref (ad 16), .ref (ad 17), .ref (ad 18), .int t_there, .int t_lift, .int t_none]) → C 6 = aI g 12 t_down → C 11 = aI g 12 t_lik → C 19 = .inr (9, [.ref (ad 5), .ref (ad 20), .int x11]) → C 20 = aI g 12 f10 → lv_has ls 2 [(0, .ref (ad 19)), (1, .int x9)] → LX9_renew_28 t_down t_lik t_there ko n x9 f10 x11 = some rr → W p l e (headSpec wsX9_renew rmX9_renew).room s m args below meth c H locs 0 0 QQ (F0 m 28 ls []) := by
    intro ko hko n
    induction n with
    | zero =>
      intro x9 f10 x11 C H locs ls hP hS hag h5 h6 h11 h19 h20 hl hf
      rw [LX9_renew_28_z] at hf
      cases hf
    | succ n ih =>
      intro x9 f10 x11 C H locs ls hP hS hag h5 h6 h11 h19 h20 hl hf
      rw [LX9_renew_28_s] at hf
      refine lv_iload_n hx hb dX9_renew_28 rfl (lv_at hl 1 rfl) ?_
      refine lv_bipush (v := 12) hx hb dX9_renew_29 (by decide) ?_
      refine lv_icmp_ge (tgt := 87) hx hb dX9_renew_31 (by decide) (fun c15 => ?_) (fun c15 => ?_)
      · have hf := it_e c15 hf
        exact hko x9 f10 x11 C H locs ls hP hS hag h5 h6 h11 h19 h20 (lv_sub hl [0, 1] rfl) hf
      · have hf := ie_e c15 hf
        refine lv_aload_n hx hb dX9_renew_34 rfl (lv_at hl 0 rfl) ?_
        refine r_get (own := RX9) (T := TX9) (n := 3) (ci := 9) (v := .ref (ad 5)) hx hb hts nX9 hown hK hP (by omega) h19 rfl 0 (by decide) k3 rfl dX9_renew_35 ?_
        refine r_getN (own := RX9) (T := TX7) (n := 16) (ci := 7) (v := .int t_there) hx hb hts nX7 hown hK hP (by omega) h5 rfl 13 (by decide) k4 rfl dX9_renew_38 ?_
        refine lv_iload_n hx hb dX9_renew_41 rfl (lv_at hl 1 rfl) ?_
        obtain ⟨q16, hq16, hf⟩ := bd_e hf
        refine k_iR (va_runSN (As := [.int t_there, .int x9]) (rest := []) ⟨hx, hb, hml, hown, hts⟩ (c_X10_has (l := l) (sz := H.size) (p0 := t_there) (p1 := x9) hq16) ⟨va_cnB 2 hts gX9_renew_X10_has_n28 rfl rfl rfl k6 k7 (by decide +kernel) ⟨Nat.le_of_ble_eq_true rfl, Nat.le_of_ble_eq_true rfl⟩, k8, trivial⟩ preS0 rfl rfl hl.1 rfl (lv_room (Nat.le_of_ble_eq_true rfl)) dX9_renew_42 ⟨Nat.le_of_ble_eq_true rfl, Nat.le_of_ble_eq_true rfl⟩) hA hP hS (fun H locs hP hS hbz_q16 => ?_)
        obtain ⟨q17, htq17, hf⟩ := bd_e hf
        have jnq17 : ∀ (C : Nat → va_E) (H : Heap) (locs : List Loc) (ls : Array Slot), va_P D vwCl (wd N ad C) H → va_S (Aw N ad s.heap.size) s.heap H locs → (∀ i : Nat, i ≠ 19 ∧ i ≠ 20 → C i = C0 i) → C 5 = .inr (7, [.ref (ad 6), .ref (ad 7), .ref (ad 8), .ref (ad 9), .ref (ad 10), .ref (ad 11), .ref (ad 12), .ref (ad 13), .ref (ad 14), .ref (ad 15), .ref (ad 16), .ref (ad 17), .ref (ad 18), .int t_there, .int t_lift, .int t_none]) → C 6 = aI g 12 t_down → C 11 = aI g 12 t_lik → C 19 = .inr (9, [.ref (ad 5), .ref (ad 20), .int q17.2]) → C 20 = aI g 12 q17.1 → lv_has ls 2 [(0, .ref (ad 19)), (1, .int x9)] → W p l e (headSpec wsX9_renew rmX9_renew).room s m args below meth c H locs 0 0 QQ (F0 m 81 ls []) := by
          intro C H locs ls hP hS hag h5 h6 h11 h19 h20 hl
          obtain ⟨x18, ex18, hf⟩ := lt_e hf
          refine lv_iinc (v := x18) (lv' := [(1, .int x18), (0, .ref (ad 19))]) hx hb dX9_renew_81 hl (k := 1) rfl (by rw [ex18]; rfl) (by decide) rfl (fun ls hl => ?_)
          refine lv_goto (tgt := 28) hx hb dX9_renew_84 (by decide) ?_
          exact ih x18 q17.1 q17.2 C H locs ls hP hS hag h5 h6 h11 h19 h20 (lv_sub hl [1, 0] rfl) hf
        clear hf
        have hf := htq17
        refine lv_if_eq (tgt := 81) hx hb dX9_renew_45 (by decide) (fun c19 => ?_) (fun c19 => ?_)
        · have hf := it_e c19 hf
          obtain rfl := Option.some.inj hf
          exact jnq17 C H locs ls hP hS hag h5 h6 h11 h19 h20 (lv_sub hl [0, 1] rfl)
        · have hf := ie_e c19 hf
          refine lv_aload_n hx hb dX9_renew_48 rfl (lv_at hl 0 rfl) ?_
          refine lv_iload_n hx hb dX9_renew_49 rfl (lv_at hl 1 rfl) ?_
          obtain ⟨q20, hq20, hf⟩ := bd_e hf
          refine k_vW (va_runV (C := RX9) (As := [.int x9]) (rest := []) ⟨hx, hb, hml, hown, hts⟩ (c_X9_standOverAllBelow (l := l) (sz := H.size) (p0 := x9) hN hI h5 h6 h19 h20 hq20) (cwV 1 hts gX9_renew_X9_standOverAllBelow rfl rfl rfl (by decide +kernel) ⟨Nat.le_of_ble_eq_true rfl, Nat.le_of_ble_eq_true rfl⟩) (preV_of hK hP (by omega) h19 rfl) rfl rfl hl.1 rfl (lv_room (Nat.le_of_ble_eq_true rfl)) dX9_renew_50 ⟨Nat.le_of_ble_eq_true rfl, Nat.le_of_ble_eq_true rfl⟩) hA hAd hS (fun C H locs hP hS hpo => ?_)
          obtain ⟨he, h20⟩ := hpo
          have hag : ∀ i : Nat, i ≠ 19 ∧ i ≠ 20 → C i = C0 i := fun i h => (he i (by omega)).trans (hag i h)
          have h5 := (he 5 (by decide)).trans h5
          have h6 := (he 6 (by decide)).trans h6
          have h11 := (he 11 (by decide)).trans h11
          have h19 := (he 19 (by decide)).trans h19
          refine lv_aload_n hx hb dX9_renew_53 rfl (lv_at hl 0 rfl) ?_
          refine lv_dup hx hb dX9_renew_54 rfl ?_
          refine r_get (own := RX9) (T := TX9) (n := 3) (ci := 9) (v := .int x11) hx hb hts nX9 hown hK hP (by omega) h19 rfl 2 (by decide) k0 rfl dX9_renew_55 ?_
          refine lv_aload_n hx hb dX9_renew_58 rfl (lv_at hl 0 rfl) ?_
          refine r_get (own := RX9) (T := TX9) (n := 3) (ci := 9) (v := .ref (ad 5)) hx hb hts nX9 hown hK hP (by omega) h19 rfl 0 (by decide) k3 rfl dX9_renew_59 ?_
          refine r_getN (own := RX9) (T := TX7) (n := 16) (ci := 7) (v := .ref (ad 11)) hx hb hts nX7 hown hK hP (by omega) h5 rfl 5 (by decide) k9 rfl dX9_renew_62 ?_
          refine lv_iload_n hx hb dX9_renew_65 rfl (lv_at hl 1 rfl) ?_
          obtain ⟨i22, x21, ex21, hf⟩ := ri_e hf
          refine r_iald hx hb hK hP (by omega) h11 i22 dX9_renew_66 ex21 ?_
          obtain ⟨q23, htq23, hf⟩ := bd_e hf
          have jnq23 : ∀ (C : Nat → va_E) (H : Heap) (locs : List Loc) (ls : Array Slot), va_P D vwCl (wd N ad C) H → va_S (Aw N ad s.heap.size) s.heap H locs → (∀ i : Nat, i ≠ 19 ∧ i ≠ 20 → C i = C0 i) → C 5 = .inr (7, [.ref (ad 6), .ref (ad 7), .ref (ad 8), .ref (ad 9), .ref (ad 10), .ref (ad 11), .ref (ad 12), .ref (ad 13), .ref (ad 14), .ref (ad 15), .ref (ad 16), .ref (ad 17), .ref (ad 18), .int t_there, .int t_lift, .int t_none]) → C 6 = aI g 12 t_down → C 11 = aI g 12 t_lik → C 19 = .inr (9, [.ref (ad 5), .ref (ad 20), .int x11]) → C 20 = aI g 12 q20 → lv_has ls 2 [(0, .ref (ad 19)), (1, .int x9)] → W p l e (headSpec wsX9_renew rmX9_renew).room s m args below meth c H locs 0 0 QQ (F0 m 77 ls [.int q23, .int x11, .ref (ad 19)]) := by
            intro C H locs ls hP hS hag h5 h6 h11 h19 h20 hl
            refine lv_ior hx hb dX9_renew_77 ?_
            obtain ⟨x24, ex24, hf⟩ := lt_e hf
            refine tp_i ex24 ?_
            refine r_put (own := RX9) (T := TX9) (n := 3) (ci := 9) (v := .int x24) hx hb hts nX9 tyX9 tyX9_ok nmX9 hown hK hI hAd hP hS (by omega) h19 rfl 2 (by decide) k0 rfl rfl rfl (Nat.le_of_ble_eq_true rfl) dX9_renew_78 (fun C H locs hP hS he hn => ?_)
            have hag : ∀ i : Nat, i ≠ 19 ∧ i ≠ 20 → C i = C0 i := fun i h => (he i (by omega)).trans (hag i h)
            have h5 := (he 5 (by decide)).trans h5
            have h6 := (he 6 (by decide)).trans h6
            have h11 := (he 11 (by decide)).trans h11
            have h20 := (he 20 (by decide)).trans h20
            have h19 : C 19 = .inr (9, [.ref (ad 5), .ref (ad 20), .int x24]) := hn
            obtain rfl := Option.some.inj hf
            exact jnq17 C H locs ls hP hS hag h5 h6 h11 h19 h20 (lv_sub hl [0, 1] rfl)
          clear hf
          have hf := htq23
          refine lv_if_le (tgt := 76) hx hb dX9_renew_67 (by decide) (fun c25 => ?_) (fun c25 => ?_)
          · have hf := it_e c25 hf
            refine lv_iconst (v := 0) hx hb dX9_renew_76 (by decide) ?_
            obtain rfl := Option.some.inj hf
            exact jnq23 C H locs ls hP hS hag h5 h6 h11 h19 h20 (lv_sub hl [0, 1] rfl)
          · have hf := ie_e c25 hf
            refine lv_iconst (v := 1) hx hb dX9_renew_70 (by decide) ?_
            refine lv_iload_n hx hb dX9_renew_71 rfl (lv_at hl 1 rfl) ?_
            refine lv_ishl hx hb dX9_renew_72 ?_
            refine lv_goto (tgt := 77) hx hb dX9_renew_73 (by decide) ?_
            obtain rfl := Option.some.inj hf
            exact jnq23 C H locs ls hP hS hag h5 h6 h11 h19 h20 (lv_sub hl [0, 1] rfl)
  refine key28 _ (fun x12 f13 x14 C H locs ls hP hS hag h5 h6 h11 h19 h20 hl hf => ?_) FU 0 f4 0 C H locs ls hP hS hag h5 h6 h11 h19 h20 (lv_sub hl [1, 0] rfl) hf
  obtain rfl := Option.some.inj hf
  rw [← hQ]
  exact e_vW hx hb hr hP hS ⟨hag, h19, h20⟩ hlocks dX9_renew_87

def LX9_minutesBetween_11 (t_down : Nat → Int32) (t_pac : Nat → Int32) (ko : Int32 → Int32 → Int32 → Int32 → Option (Int32)) : Nat → Int32 → Int32 → Int32 → Int32 → Option (Int32)
  | 0, _, _, _, _ => none
  | n + 1, x1, x2, x3, x4 =>
    if 24 ≤ x4 then
      ko x1 x2 x3 x4
    else
      if x2 = x3 then
        ko x1 x2 x3 x4
      else
        (if x2 ≤ x3 then
          ri t_pac 12 (x3) fun x14 =>
          lt ((x1 + x14) : Int32) fun x16 =>
          ri t_down 12 (x3) fun x17 =>
          some (x17, x16, x2)
        else
          ri t_pac 12 (x2) fun x19 =>
          lt ((x1 + x19) : Int32) fun x21 =>
          ri t_down 12 (x2) fun x22 =>
          some (x3, x21, x22) : Option (Int32 × Int32 × Int32)).bind fun q11 =>
        lt (x4 + 1 : Int32) fun x12 =>
        LX9_minutesBetween_11 t_down t_pac ko n q11.2.1 q11.2.2 q11.1 x12
theorem LX9_minutesBetween_11_z (t_down : Nat → Int32) (t_pac : Nat → Int32) (ko : Int32 → Int32 → Int32 → Int32 → Option (Int32)) (x1 : Int32) (x2 : Int32) (x3 : Int32) (x4 : Int32) : LX9_minutesBetween_11 t_down t_pac ko 0 x1 x2 x3 x4 = none := rfl
theorem LX9_minutesBetween_11_s (t_down : Nat → Int32) (t_pac : Nat → Int32) (ko : Int32 → Int32 → Int32 → Int32 → Option (Int32)) (n : Nat) (x1 : Int32) (x2 : Int32) (x3 : Int32) (x4 : Int32) : LX9_minutesBetween_11 t_down t_pac ko (n + 1) x1 x2 x3 x4 =
    if 24 ≤ x4 then
      ko x1 x2 x3 x4
    else
      if x2 = x3 then
        ko x1 x2 x3 x4
      else
        (if x2 ≤ x3 then
          ri t_pac 12 (x3) fun x14 =>
          lt ((x1 + x14) : Int32) fun x16 =>
          ri t_down 12 (x3) fun x17 =>
          some (x17, x16, x2)
        else
          ri t_pac 12 (x2) fun x19 =>
          lt ((x1 + x19) : Int32) fun x21 =>
          ri t_down 12 (x2) fun x22 =>
          some (x3, x21, x22) : Option (Int32 × Int32 × Int32)).bind fun q11 =>
        lt (x4 + 1 : Int32) fun x12 =>
        LX9_minutesBetween_11 t_down t_pac ko n q11.2.1 q11.2.2 q11.1 x12 := rfl
def f_X9_minutesBetween (p0 : Int32) (p1 : Int32) (t_down : Nat → Int32) (t_pac : Nat → Int32) : Option (Int32) :=
  LX9_minutesBetween_11 t_down t_pac (fun x5 x6 x7 x8 =>
    some (x5)) FU 0 p0 p1 0
abbrev rmX9_minutesBetween : Room := { frames := 0, cells := 0, slots := 0, locals := 0 }
set_option maxHeartbeats 4000000 in
set_option maxRecDepth 100000 in
theorem c_X9_minutesBetween {l : Launch} {D : va_G} {g : Nat → ClassId} {N : Nat} {ad : Nat → Nat} {C : Nat → va_E} {sz : Nat} {t_there : Int32} {t_lift : Int32} {t_none : Int32} {t_down : Nat → Int32} {t_pac : Nat → Int32} {w_src : Int32} {p0 : Int32} {p1 : Int32} {rr : Int32} (hN : 86 ≤ N) (h5 : C 5 = .inr (7, [.ref (ad 6), .ref (ad 7), .ref (ad 8), .ref (ad 9), .ref (ad 10), .ref (ad 11), .ref (ad 12), .ref (ad 13), .ref (ad 14), .ref (ad 15), .ref (ad 16), .ref (ad 17), .ref (ad 18), .int t_there, .int t_lift, .int t_none])) (h6 : C 6 = aI g 12 t_down) (h8 : C 8 = aI g 12 t_pac) (h19 : C 19 = .inr (9, [.ref (ad 5), .ref (ad 20), .int w_src])) (hf : f_X9_minutesBetween p0 p1 t_down t_pac = some rr) : Met l yX9_minutesBetween wsX9_minutesBetween rmX9_minutesBetween (PcW D g N ad C sz [.ref (ad 19), .int p0, .int p1]) (QiR sz tP rr) 0 0 (An sz) := by
  refine Met.ofW (cc := cX9_minutesBetween) (maxL := 7) (ret := (some .int)) (by decide) rfl ?_
  intro p e s m args below meth c s₁ B hml hv
  obtain ⟨hav, hsz, hK, hP⟩ := hv
  subst hsz
  have hx := B.exec
  have hb := B.bytes
  have hr := B.returns
  have hts := atoms_spec (ws := wsX9_minutesBetween) B.pre
  have hown : s.vm.findClass RX9 = some m.cls := findClass_of_methodNamed B.named
  have hlocks := B.notSynchronized
  generalize hQ : MQ below (QiR s.heap.size tP rr) args s 0 0 (An s.heap.size) = QQ
  have hS : va_S (An s.heap.size) s.heap s.heap [] := va_S.rf
  have hA : ∀ q, s.heap.size ≤ q → (An s.heap.size) q := fun q h => h
  have k0 := hts (.fieldLink RX9 15 "UpDrain$Ways" "plan" "LUpDrain$Town;") (List.mem_of_getElem? (i := 1) rfl)
  have nX9 : ∀ w ∈ u_ws RX9 TX9 3, w ∈ wsX9_minutesBetween := fun _ h => List.mem_cons_of_mem _ (List.mem_append_left _ (List.mem_append_right _ h))
  have k2 := nf_10 (A := args) hK
  have nX7 : ∀ w ∈ u_ws RX7 TX7 16, w ∈ wsX9_minutesBetween := fun _ h => List.mem_cons_of_mem _ (List.mem_append_right _ h)
  have k4 := nf_5 (A := args) hK
  have hE := lg_entry_eq m [.ref (ad 19), .int p0, .int p1] 7
  rw [← hav] at hE
  rw [hE]
  have hl := lv_entry [.ref (ad 19), .int p0, .int p1] (n := 7) (Nat.le_of_ble_eq_true rfl)
  generalize (lg_sl [.ref (ad 19), .int p0, .int p1] ++ List.replicate (7 - (lg_sl [.ref (ad 19), .int p0, .int p1]).length) Slot.unset).toArray = ls at hl ⊢
  have hl : lv_has ls 7 [(0, .ref (ad 19)), (1, .int p0), (2, .int p1)] := hl
  clear hE
  unfold f_X9_minutesBetween at hf
  suffices hgo : ∀ (H : Heap) (locs : List Loc), va_P D vwCl (wd N ad C) H → va_S (An s.heap.size) s.heap H locs → W p l e (headSpec wsX9_minutesBetween rmX9_minutesBetween).room s m args below meth c H locs 0 0 QQ (F0 m 0 ls []) from hgo s.heap [] hP hS
  clear hS hP
  intro H locs hP hS
  refine lv_iconst (v := 0) hx hb dX9_minutesBetween_0 (by decide) ?_
  refine lv_istore_n (lv' := [(3, .int 0), (0, .ref (ad 19)), (1, .int p0), (2, .int p1)]) hx hb dX9_minutesBetween_1 rfl hl (by decide) rfl (fun ls hl => ?_)
  refine lv_iload_n hx hb dX9_minutesBetween_2 rfl (lv_at hl 2 rfl) ?_
  refine lv_istore (lv' := [(4, .int p0), (3, .int 0), (0, .ref (ad 19)), (1, .int p0), (2, .int p1)]) hx hb dX9_minutesBetween_3 hl (by decide) rfl (fun ls hl => ?_)
  refine lv_iload_n hx hb dX9_minutesBetween_5 rfl (lv_at hl 4 rfl) ?_
  refine lv_istore (lv' := [(5, .int p1), (4, .int p0), (3, .int 0), (0, .ref (ad 19)), (1, .int p0), (2, .int p1)]) hx hb dX9_minutesBetween_6 hl (by decide) rfl (fun ls hl => ?_)
  refine lv_iconst (v := 0) hx hb dX9_minutesBetween_8 (by decide) ?_
  refine lv_istore (lv' := [(6, .int 0), (5, .int p1), (4, .int p0), (3, .int 0), (0, .ref (ad 19)), (1, .int p0), (2, .int p1)]) hx hb dX9_minutesBetween_9 hl (by decide) rfl (fun ls hl => ?_)
  have key11 : ∀ (ko : Int32 → Int32 → Int32 → Int32 → Option (Int32)), (∀ (x5 : Int32) (x6 : Int32) (x7 : Int32) (x8 : Int32) (C : Nat → va_E) (H : Heap) (locs : List Loc) (ls : Array Slot), va_P D vwCl (wd N ad C) H → va_S (An s.heap.size) s.heap H locs → C 5 = .inr (7, [.ref (ad 6), .ref (ad 7), .ref (ad 8), .ref (ad 9), .ref (ad 10), .ref (ad 11), .ref (ad 12), .ref (ad 13), .ref (ad 14), .ref (ad 15), .ref (ad 16), .ref (ad 17), .ref (ad 18), .int t_there, .int t_lift, .int t_none]) → C 6 = aI g 12 t_down → C 8 = aI g 12 t_pac → C 19 = .inr (9, [.ref (ad 5), .ref (ad 20), .int w_src]) → lv_has ls 7 [(0, .ref (ad 19)), (1, .int p0), (2, .int p1), (3, .int x5), (4, .int x6), (5, .int x7), (6, .int x8)] → ko x5 x6 x7 x8 = some rr → W p l e (headSpec wsX9_minutesBetween rmX9_minutesBetween).room s m args below meth c H locs 0 0 QQ (F0 m 91 ls [])) → ∀ (n : Nat) (x1 : Int32) (x2 : Int32) (x3 : Int32) (x4 : Int32) (C : Nat → va_E) (H : Heap) (locs : List Loc) (ls : Array Slot), va_P D vwCl (wd N ad C) H → va_S (An s.heap.size) s.heap H locs → C 5 = .inr (7, [.ref (ad 6), .ref (ad 7), .ref (ad 8), .ref (ad 9), .ref (ad 10), .ref (ad 11), .ref (ad 12), .ref (ad 13), .ref (ad 14), .ref (ad 15), .ref (ad 16), .ref (ad 17), .ref (ad 18), .int t_there, .int t_lift, .int t_none]) → C 6 = aI g 12 t_down → C 8 = aI g 12 t_pac → C 19 = .inr (9, [.ref (ad 5), .ref (ad 20), .int w_src]) → lv_has ls 7 [(0, .ref (ad 19)), (1, .int p0), (2, .int p1), (3, .int x1), (4, .int x2), (5, .int x3), (6, .int x4)] → LX9_minutesBetween_11 t_down t_pac ko n x1 x2 x3 x4 = some rr → W p l e (headSpec wsX9_minutesBetween rmX9_minutesBetween).room s m args below meth c H locs 0 0 QQ (F0 m 11 ls []) := by
    intro ko hko n
    induction n with
    | zero =>
      intro x1 x2 x3 x4 C H locs ls hP hS h5 h6 h8 h19 hl hf
      rw [LX9_minutesBetween_11_z] at hf
      cases hf
    | succ n ih =>
      intro x1 x2 x3 x4 C H locs ls hP hS h5 h6 h8 h19 hl hf
      rw [LX9_minutesBetween_11_s] at hf
      refine lv_iload hx hb dX9_minutesBetween_11 (lv_at hl 6 rfl) ?_
      refine lv_bipush (v := 24) hx hb dX9_minutesBetween_13 (by decide) ?_
      refine lv_icmp_ge (tgt := 91) hx hb dX9_minutesBetween_15 (by decide) (fun c9 => ?_) (fun c9 => ?_)
      · have hf := it_e c9 hf
        exact hko x1 x2 x3 x4 C H locs ls hP hS h5 h6 h8 h19 (lv_sub hl [0, 1, 2, 3, 4, 5, 6] rfl) hf
      · have hf := ie_e c9 hf
        refine lv_iload hx hb dX9_minutesBetween_18 (lv_at hl 4 rfl) ?_
        refine lv_iload hx hb dX9_minutesBetween_20 (lv_at hl 5 rfl) ?_
        refine lv_icmp_eq (tgt := 91) hx hb dX9_minutesBetween_22 (by decide) (fun c10 => ?_) (fun c10 => ?_)
        · have hf := it_e c10 hf
          exact hko x1 x2 x3 x4 C H locs ls hP hS h5 h6 h8 h19 (lv_sub hl [0, 1, 2, 3, 4, 5, 6] rfl) hf
        · have hf := ie_e c10 hf
          refine lv_iload hx hb dX9_minutesBetween_25 (lv_at hl 4 rfl) ?_
          refine lv_iload hx hb dX9_minutesBetween_27 (lv_at hl 5 rfl) ?_
          obtain ⟨q11, htq11, hf⟩ := bd_e hf
          have jnq11 : ∀ (C : Nat → va_E) (H : Heap) (locs : List Loc) (ls : Array Slot), va_P D vwCl (wd N ad C) H → va_S (An s.heap.size) s.heap H locs → C 5 = .inr (7, [.ref (ad 6), .ref (ad 7), .ref (ad 8), .ref (ad 9), .ref (ad 10), .ref (ad 11), .ref (ad 12), .ref (ad 13), .ref (ad 14), .ref (ad 15), .ref (ad 16), .ref (ad 17), .ref (ad 18), .int t_there, .int t_lift, .int t_none]) → C 6 = aI g 12 t_down → C 8 = aI g 12 t_pac → C 19 = .inr (9, [.ref (ad 5), .ref (ad 20), .int w_src]) → lv_has ls 7 [(0, .ref (ad 19)), (1, .int p0), (2, .int p1), (3, .int q11.2.1), (4, .int q11.2.2), (5, .int q11.1), (6, .int x4)] → W p l e (headSpec wsX9_minutesBetween rmX9_minutesBetween).room s m args below meth c H locs 0 0 QQ (F0 m 85 ls []) := by
            intro C H locs ls hP hS h5 h6 h8 h19 hl
            obtain ⟨x12, ex12, hf⟩ := lt_e hf
            refine lv_iinc (v := x12) (lv' := [(6, .int x12), (0, .ref (ad 19)), (1, .int p0), (2, .int p1), (3, .int q11.2.1), (4, .int q11.2.2), (5, .int q11.1)]) hx hb dX9_minutesBetween_85 hl (k := 6) rfl (by rw [ex12]; rfl) (by decide) rfl (fun ls hl => ?_)
            refine lv_goto (tgt := 11) hx hb dX9_minutesBetween_88 (by decide) ?_
            exact ih q11.2.1 q11.2.2 q11.1 x12 C H locs ls hP hS h5 h6 h8 h19 (lv_sub hl [1, 2, 3, 4, 5, 6, 0] rfl) hf
          clear hf
          have hf := htq11
          refine lv_icmp_le (tgt := 60) hx hb dX9_minutesBetween_29 (by decide) (fun c13 => ?_) (fun c13 => ?_)
          · have hf := it_e c13 hf
            refine lv_iload_n hx hb dX9_minutesBetween_60 rfl (lv_at hl 3 rfl) ?_
            refine lv_aload_n hx hb dX9_minutesBetween_61 rfl (lv_at hl 0 rfl) ?_
            refine r_get (own := RX9) (T := TX9) (n := 3) (ci := 9) (v := .ref (ad 5)) hx hb hts nX9 hown hK hP (by omega) h19 rfl 0 (by decide) k0 rfl dX9_minutesBetween_62 ?_
            refine r_getN (own := RX9) (T := TX7) (n := 16) (ci := 7) (v := .ref (ad 8)) hx hb hts nX7 hown hK hP (by omega) h5 rfl 2 (by decide) k2 rfl dX9_minutesBetween_65 ?_
            refine lv_iload hx hb dX9_minutesBetween_68 (lv_at hl 5 rfl) ?_
            obtain ⟨i15, x14, ex14, hf⟩ := ri_e hf
            refine r_iald hx hb hK hP (by omega) h8 i15 dX9_minutesBetween_70 ex14 ?_
            refine lv_iadd hx hb dX9_minutesBetween_71 ?_
            obtain ⟨x16, ex16, hf⟩ := lt_e hf
            refine tp_i ex16 ?_
            refine lv_istore_n (lv' := [(3, .int x16), (0, .ref (ad 19)), (1, .int p0), (2, .int p1), (4, .int x2), (5, .int x3), (6, .int x4)]) hx hb dX9_minutesBetween_72 rfl hl (by decide) rfl (fun ls hl => ?_)
            refine lv_aload_n hx hb dX9_minutesBetween_73 rfl (lv_at hl 1 rfl) ?_
            refine r_get (own := RX9) (T := TX9) (n := 3) (ci := 9) (v := .ref (ad 5)) hx hb hts nX9 hown hK hP (by omega) h19 rfl 0 (by decide) k0 rfl dX9_minutesBetween_74 ?_
            refine r_getN (own := RX9) (T := TX7) (n := 16) (ci := 7) (v := .ref (ad 6)) hx hb hts nX7 hown hK hP (by omega) h5 rfl 0 (by decide) k4 rfl dX9_minutesBetween_77 ?_
            refine lv_iload hx hb dX9_minutesBetween_80 (lv_at hl 5 rfl) ?_
            obtain ⟨i18, x17, ex17, hf⟩ := ri_e hf
            refine r_iald hx hb hK hP (by omega) h6 i18 dX9_minutesBetween_82 ex17 ?_
            refine lv_istore (lv' := [(5, .int x17), (3, .int x16), (0, .ref (ad 19)), (1, .int p0), (2, .int p1), (4, .int x2), (6, .int x4)]) hx hb dX9_minutesBetween_83 hl (by decide) rfl (fun ls hl => ?_)
            obtain rfl := Option.some.inj hf
            exact jnq11 C H locs ls hP hS h5 h6 h8 h19 (lv_sub hl [2, 3, 4, 1, 5, 0, 6] rfl)
          · have hf := ie_e c13 hf
            refine lv_iload_n hx hb dX9_minutesBetween_32 rfl (lv_at hl 3 rfl) ?_
            refine lv_aload_n hx hb dX9_minutesBetween_33 rfl (lv_at hl 0 rfl) ?_
            refine r_get (own := RX9) (T := TX9) (n := 3) (ci := 9) (v := .ref (ad 5)) hx hb hts nX9 hown hK hP (by omega) h19 rfl 0 (by decide) k0 rfl dX9_minutesBetween_34 ?_
            refine r_getN (own := RX9) (T := TX7) (n := 16) (ci := 7) (v := .ref (ad 8)) hx hb hts nX7 hown hK hP (by omega) h5 rfl 2 (by decide) k2 rfl dX9_minutesBetween_37 ?_
            refine lv_iload hx hb dX9_minutesBetween_40 (lv_at hl 4 rfl) ?_
            obtain ⟨i20, x19, ex19, hf⟩ := ri_e hf
            refine r_iald hx hb hK hP (by omega) h8 i20 dX9_minutesBetween_42 ex19 ?_
            refine lv_iadd hx hb dX9_minutesBetween_43 ?_
            obtain ⟨x21, ex21, hf⟩ := lt_e hf
            refine tp_i ex21 ?_
            refine lv_istore_n (lv' := [(3, .int x21), (0, .ref (ad 19)), (1, .int p0), (2, .int p1), (4, .int x2), (5, .int x3), (6, .int x4)]) hx hb dX9_minutesBetween_44 rfl hl (by decide) rfl (fun ls hl => ?_)
            refine lv_aload_n hx hb dX9_minutesBetween_45 rfl (lv_at hl 1 rfl) ?_
            refine r_get (own := RX9) (T := TX9) (n := 3) (ci := 9) (v := .ref (ad 5)) hx hb hts nX9 hown hK hP (by omega) h19 rfl 0 (by decide) k0 rfl dX9_minutesBetween_46 ?_
            refine r_getN (own := RX9) (T := TX7) (n := 16) (ci := 7) (v := .ref (ad 6)) hx hb hts nX7 hown hK hP (by omega) h5 rfl 0 (by decide) k4 rfl dX9_minutesBetween_49 ?_
            refine lv_iload hx hb dX9_minutesBetween_52 (lv_at hl 4 rfl) ?_
            obtain ⟨i23, x22, ex22, hf⟩ := ri_e hf
            refine r_iald hx hb hK hP (by omega) h6 i23 dX9_minutesBetween_54 ex22 ?_
            refine lv_istore (lv' := [(4, .int x22), (3, .int x21), (0, .ref (ad 19)), (1, .int p0), (2, .int p1), (5, .int x3), (6, .int x4)]) hx hb dX9_minutesBetween_55 hl (by decide) rfl (fun ls hl => ?_)
            refine lv_goto (tgt := 85) hx hb dX9_minutesBetween_57 (by decide) ?_
            obtain rfl := Option.some.inj hf
            exact jnq11 C H locs ls hP hS h5 h6 h8 h19 (lv_sub hl [2, 3, 4, 1, 0, 5, 6] rfl)
  refine key11 _ (fun x5 x6 x7 x8 C H locs ls hP hS h5 h6 h8 h19 hl hf => ?_) FU 0 p0 p1 0 C H locs ls hP hS h5 h6 h8 h19 (lv_sub hl [4, 5, 6, 3, 2, 1, 0] rfl) hf
  refine lv_iload_n hx hb dX9_minutesBetween_91 rfl (lv_at hl 3 rfl) ?_
  obtain rfl := Option.some.inj hf
  rw [← hQ]
  exact e_iR hx hb hr rfl (tP_i _) hS hlocks dX9_minutesBetween_92

def LX9_likelyOf_4 (p0 : Int32) (t_lik : Nat → Int32) (ko : Int32 → Int32 → Option (Int32)) : Nat → Int32 → Int32 → Option (Int32)
  | 0, _, _ => none
  | n + 1, x1, x2 =>
    if 12 ≤ x2 then
      ko x1 x2
    else
      (f_X10_has p0 x2).bind fun q6 =>
      (if q6 = 0 then
        some (0)
      else
        ri t_lik 12 (x2) fun x11 =>
        some (x11) : Option (Int32)).bind fun q7 =>
      lt ((x1 + q7) : Int32) fun x8 =>
      lt (x2 + 1 : Int32) fun x9 =>
      LX9_likelyOf_4 p0 t_lik ko n x8 x9
theorem LX9_likelyOf_4_z (p0 : Int32) (t_lik : Nat → Int32) (ko : Int32 → Int32 → Option (Int32)) (x1 : Int32) (x2 : Int32) : LX9_likelyOf_4 p0 t_lik ko 0 x1 x2 = none := rfl
theorem LX9_likelyOf_4_s (p0 : Int32) (t_lik : Nat → Int32) (ko : Int32 → Int32 → Option (Int32)) (n : Nat) (x1 : Int32) (x2 : Int32) : LX9_likelyOf_4 p0 t_lik ko (n + 1) x1 x2 =
    if 12 ≤ x2 then
      ko x1 x2
    else
      (f_X10_has p0 x2).bind fun q6 =>
      (if q6 = 0 then
        some (0)
      else
        ri t_lik 12 (x2) fun x11 =>
        some (x11) : Option (Int32)).bind fun q7 =>
      lt ((x1 + q7) : Int32) fun x8 =>
      lt (x2 + 1 : Int32) fun x9 =>
      LX9_likelyOf_4 p0 t_lik ko n x8 x9 := rfl
def f_X9_likelyOf (p0 : Int32) (t_lik : Nat → Int32) : Option (Int32) :=
  LX9_likelyOf_4 p0 t_lik (fun x3 x4 =>
    some (x3)) FU 0 0
abbrev rmX9_likelyOf : Room := { frames := 1, cells := 0, slots := 0, locals := 21 }
set_option maxHeartbeats 4000000 in
set_option maxRecDepth 100000 in
theorem c_X9_likelyOf {l : Launch} {D : va_G} {g : Nat → ClassId} {N : Nat} {ad : Nat → Nat} {C : Nat → va_E} {sz : Nat} {t_there : Int32} {t_lift : Int32} {t_none : Int32} {t_lik : Nat → Int32} {w_src : Int32} {p0 : Int32} {rr : Int32} (hN : 86 ≤ N) (h5 : C 5 = .inr (7, [.ref (ad 6), .ref (ad 7), .ref (ad 8), .ref (ad 9), .ref (ad 10), .ref (ad 11), .ref (ad 12), .ref (ad 13), .ref (ad 14), .ref (ad 15), .ref (ad 16), .ref (ad 17), .ref (ad 18), .int t_there, .int t_lift, .int t_none])) (h11 : C 11 = aI g 12 t_lik) (h19 : C 19 = .inr (9, [.ref (ad 5), .ref (ad 20), .int w_src])) (hf : f_X9_likelyOf p0 t_lik = some rr) : Met l yX9_likelyOf wsX9_likelyOf rmX9_likelyOf (PcW D g N ad C sz [.ref (ad 19), .int p0]) (QiR sz tP rr) 0 0 (An sz) := by
  refine Met.ofW (cc := cX9_likelyOf) (maxL := 4) (ret := (some .int)) (by decide) rfl ?_
  intro p e s m args below meth c s₁ B hml hv
  obtain ⟨hav, hsz, hK, hP⟩ := hv
  subst hsz
  have hx := B.exec
  have hb := B.bytes
  have hr := B.returns
  have hts := atoms_spec (ws := wsX9_likelyOf) B.pre
  have hown : s.vm.findClass RX9 = some m.cls := findClass_of_methodNamed B.named
  have hlocks := B.notSynchronized
  generalize hQ : MQ below (QiR s.heap.size tP rr) args s 0 0 (An s.heap.size) = QQ
  have hS : va_S (An s.heap.size) s.heap s.heap [] := va_S.rf
  have hA : ∀ q, s.heap.size ≤ q → (An s.heap.size) q := fun q h => h
  have k0 := nm_5 hK
  have k1 := hts (.initialized RX10) (List.mem_of_getElem? (i := 3) rfl)
  have k2 := hts (.static yX10_has) (List.mem_of_getElem? (i := 2) rfl)
  have k3 := hts (.fieldLink RX9 15 "UpDrain$Ways" "plan" "LUpDrain$Town;") (List.mem_of_getElem? (i := 1) rfl)
  have nX9 : ∀ w ∈ u_ws RX9 TX9 3, w ∈ wsX9_likelyOf := fun _ h => List.mem_cons_of_mem _ (List.mem_append_left _ (List.mem_append_right _ h))
  have k5 := nf_17 (A := args) hK
  have nX7 : ∀ w ∈ u_ws RX7 TX7 16, w ∈ wsX9_likelyOf := fun _ h => List.mem_cons_of_mem _ (List.mem_append_right _ h)
  have hE := lg_entry_eq m [.ref (ad 19), .int p0] 4
  rw [← hav] at hE
  rw [hE]
  have hl := lv_entry [.ref (ad 19), .int p0] (n := 4) (Nat.le_of_ble_eq_true rfl)
  generalize (lg_sl [.ref (ad 19), .int p0] ++ List.replicate (4 - (lg_sl [.ref (ad 19), .int p0]).length) Slot.unset).toArray = ls at hl ⊢
  have hl : lv_has ls 4 [(0, .ref (ad 19)), (1, .int p0)] := hl
  clear hE
  unfold f_X9_likelyOf at hf
  suffices hgo : ∀ (H : Heap) (locs : List Loc), va_P D vwCl (wd N ad C) H → va_S (An s.heap.size) s.heap H locs → W p l e (headSpec wsX9_likelyOf rmX9_likelyOf).room s m args below meth c H locs 0 0 QQ (F0 m 0 ls []) from hgo s.heap [] hP hS
  clear hS hP
  intro H locs hP hS
  refine lv_iconst (v := 0) hx hb dX9_likelyOf_0 (by decide) ?_
  refine lv_istore_n (lv' := [(2, .int 0), (0, .ref (ad 19)), (1, .int p0)]) hx hb dX9_likelyOf_1 rfl hl (by decide) rfl (fun ls hl => ?_)
  refine lv_iconst (v := 0) hx hb dX9_likelyOf_2 (by decide) ?_
  refine lv_istore_n (lv' := [(3, .int 0), (2, .int 0), (0, .ref (ad 19)), (1, .int p0)]) hx hb dX9_likelyOf_3 rfl hl (by decide) rfl (fun ls hl => ?_)
  have key4 : ∀ (ko : Int32 → Int32 → Option (Int32)), (∀ (x3 : Int32) (x4 : Int32) (C : Nat → va_E) (H : Heap) (locs : List Loc) (ls : Array Slot), va_P D vwCl (wd N ad C) H → va_S (An s.heap.size) s.heap H locs → C 5 = .inr (7, [.ref (ad 6), .ref (ad 7), .ref (ad 8), .ref (ad 9), .ref (ad 10), .ref (ad 11), .ref (ad 12), .ref (ad 13), .ref (ad 14), .ref (ad 15), .ref (ad 16), .ref (ad 17), .ref (ad 18), .int t_there, .int t_lift, .int t_none]) → C 11 = aI g 12 t_lik → C 19 = .inr (9, [.ref (ad 5), .ref (ad 20), .int w_src]) → lv_has ls 4 [(0, .ref (ad 19)), (1, .int p0), (2, .int x3), (3, .int x4)] → ko x3 x4 = some rr → W p l e (headSpec wsX9_likelyOf rmX9_likelyOf).room s m args below meth c H locs 0 0 QQ (F0 m 40 ls [])) → ∀ (n : Nat) (x1 : Int32) (x2 : Int32) (C : Nat → va_E) (H : Heap) (locs : List Loc) (ls : Array Slot), va_P D vwCl (wd N ad C) H → va_S (An s.heap.size) s.heap H locs → C 5 = .inr (7, [.ref (ad 6), .ref (ad 7), .ref (ad 8), .ref (ad 9), .ref (ad 10), .ref (ad 11), .ref (ad 12), .ref (ad 13), .ref (ad 14), .ref (ad 15), .ref (ad 16), .ref (ad 17), .ref (ad 18), .int t_there, .int t_lift, .int t_none]) → C 11 = aI g 12 t_lik → C 19 = .inr (9, [.ref (ad 5), .ref (ad 20), .int w_src]) → lv_has ls 4 [(0, .ref (ad 19)), (1, .int p0), (2, .int x1), (3, .int x2)] → LX9_likelyOf_4 p0 t_lik ko n x1 x2 = some rr → W p l e (headSpec wsX9_likelyOf rmX9_likelyOf).room s m args below meth c H locs 0 0 QQ (F0 m 4 ls []) := by
    intro ko hko n
    induction n with
    | zero =>
      intro x1 x2 C H locs ls hP hS h5 h11 h19 hl hf
      rw [LX9_likelyOf_4_z] at hf
      cases hf
    | succ n ih =>
      intro x1 x2 C H locs ls hP hS h5 h11 h19 hl hf
      rw [LX9_likelyOf_4_s] at hf
      refine lv_iload_n hx hb dX9_likelyOf_4 rfl (lv_at hl 3 rfl) ?_
      refine lv_bipush (v := 12) hx hb dX9_likelyOf_5 (by decide) ?_
      refine lv_icmp_ge (tgt := 40) hx hb dX9_likelyOf_7 (by decide) (fun c5 => ?_) (fun c5 => ?_)
      · have hf := it_e c5 hf
        exact hko x1 x2 C H locs ls hP hS h5 h11 h19 (lv_sub hl [0, 1, 2, 3] rfl) hf
      · have hf := ie_e c5 hf
        refine lv_iload_n hx hb dX9_likelyOf_10 rfl (lv_at hl 2 rfl) ?_
        refine lv_iload_n hx hb dX9_likelyOf_11 rfl (lv_at hl 1 rfl) ?_
        refine lv_iload_n hx hb dX9_likelyOf_12 rfl (lv_at hl 3 rfl) ?_
        obtain ⟨q6, hq6, hf⟩ := bd_e hf
        refine k_iR (va_runSN (As := [.int p0, .int x2]) (rest := [.int x1]) ⟨hx, hb, hml, hown, hts⟩ (c_X10_has (l := l) (sz := H.size) (p0 := p0) (p1 := x2) hq6) ⟨va_cnB 2 hts gX9_likelyOf_X10_has_n28 rfl rfl rfl k0 k1 (by decide +kernel) ⟨Nat.le_of_ble_eq_true rfl, Nat.le_of_ble_eq_true rfl⟩, k2, trivial⟩ preS0 rfl rfl hl.1 rfl (lv_room (Nat.le_of_ble_eq_true rfl)) dX9_likelyOf_13 ⟨Nat.le_of_ble_eq_true rfl, Nat.le_of_ble_eq_true rfl⟩) hA hP hS (fun H locs hP hS hbz_q6 => ?_)
        obtain ⟨q7, htq7, hf⟩ := bd_e hf
        have jnq7 : ∀ (C : Nat → va_E) (H : Heap) (locs : List Loc) (ls : Array Slot), va_P D vwCl (wd N ad C) H → va_S (An s.heap.size) s.heap H locs → C 5 = .inr (7, [.ref (ad 6), .ref (ad 7), .ref (ad 8), .ref (ad 9), .ref (ad 10), .ref (ad 11), .ref (ad 12), .ref (ad 13), .ref (ad 14), .ref (ad 15), .ref (ad 16), .ref (ad 17), .ref (ad 18), .int t_there, .int t_lift, .int t_none]) → C 11 = aI g 12 t_lik → C 19 = .inr (9, [.ref (ad 5), .ref (ad 20), .int w_src]) → lv_has ls 4 [(0, .ref (ad 19)), (1, .int p0), (2, .int x1), (3, .int x2)] → W p l e (headSpec wsX9_likelyOf rmX9_likelyOf).room s m args below meth c H locs 0 0 QQ (F0 m 32 ls [.int q7, .int x1]) := by
          intro C H locs ls hP hS h5 h11 h19 hl
          refine lv_iadd hx hb dX9_likelyOf_32 ?_
          obtain ⟨x8, ex8, hf⟩ := lt_e hf
          refine tp_i ex8 ?_
          refine lv_istore_n (lv' := [(2, .int x8), (0, .ref (ad 19)), (1, .int p0), (3, .int x2)]) hx hb dX9_likelyOf_33 rfl hl (by decide) rfl (fun ls hl => ?_)
          obtain ⟨x9, ex9, hf⟩ := lt_e hf
          refine lv_iinc (v := x9) (lv' := [(3, .int x9), (2, .int x8), (0, .ref (ad 19)), (1, .int p0)]) hx hb dX9_likelyOf_34 hl (k := 3) rfl (by rw [ex9]; rfl) (by decide) rfl (fun ls hl => ?_)
          refine lv_goto (tgt := 4) hx hb dX9_likelyOf_37 (by decide) ?_
          exact ih x8 x9 C H locs ls hP hS h5 h11 h19 (lv_sub hl [2, 3, 1, 0] rfl) hf
        clear hf
        have hf := htq7
        refine lv_if_eq (tgt := 31) hx hb dX9_likelyOf_16 (by decide) (fun c10 => ?_) (fun c10 => ?_)
        · have hf := it_e c10 hf
          refine lv_iconst (v := 0) hx hb dX9_likelyOf_31 (by decide) ?_
          obtain rfl := Option.some.inj hf
          exact jnq7 C H locs ls hP hS h5 h11 h19 (lv_sub hl [0, 1, 2, 3] rfl)
        · have hf := ie_e c10 hf
          refine lv_aload_n hx hb dX9_likelyOf_19 rfl (lv_at hl 0 rfl) ?_
          refine r_get (own := RX9) (T := TX9) (n := 3) (ci := 9) (v := .ref (ad 5)) hx hb hts nX9 hown hK hP (by omega) h19 rfl 0 (by decide) k3 rfl dX9_likelyOf_20 ?_
          refine r_getN (own := RX9) (T := TX7) (n := 16) (ci := 7) (v := .ref (ad 11)) hx hb hts nX7 hown hK hP (by omega) h5 rfl 5 (by decide) k5 rfl dX9_likelyOf_23 ?_
          refine lv_iload_n hx hb dX9_likelyOf_26 rfl (lv_at hl 3 rfl) ?_
          obtain ⟨i12, x11, ex11, hf⟩ := ri_e hf
          refine r_iald hx hb hK hP (by omega) h11 i12 dX9_likelyOf_27 ex11 ?_
          refine lv_goto (tgt := 32) hx hb dX9_likelyOf_28 (by decide) ?_
          obtain rfl := Option.some.inj hf
          exact jnq7 C H locs ls hP hS h5 h11 h19 (lv_sub hl [0, 1, 2, 3] rfl)
  refine key4 _ (fun x3 x4 C H locs ls hP hS h5 h11 h19 hl hf => ?_) FU 0 0 C H locs ls hP hS h5 h11 h19 (lv_sub hl [2, 3, 1, 0] rfl) hf
  refine lv_iload_n hx hb dX9_likelyOf_40 rfl (lv_at hl 2 rfl) ?_
  obtain rfl := Option.some.inj hf
  rw [← hQ]
  exact e_iR hx hb hr rfl (tP_i _) hS hlocks dX9_likelyOf_41

def LX9_allPaces_4 (t_pac : Nat → Int32) (t_there : Int32) (ko : Int32 → Int32 → Option (Int32)) : Nat → Int32 → Int32 → Option (Int32)
  | 0, _, _ => none
  | n + 1, x1, x2 =>
    if 12 ≤ x2 then
      ko x1 x2
    else
      (f_X10_has t_there x2).bind fun q6 =>
      (if q6 = 0 then
        some (0)
      else
        ri t_pac 12 (x2) fun x11 =>
        some (x11) : Option (Int32)).bind fun q7 =>
      lt ((x1 + q7) : Int32) fun x8 =>
      lt (x2 + 1 : Int32) fun x9 =>
      LX9_allPaces_4 t_pac t_there ko n x8 x9
theorem LX9_allPaces_4_z (t_pac : Nat → Int32) (t_there : Int32) (ko : Int32 → Int32 → Option (Int32)) (x1 : Int32) (x2 : Int32) : LX9_allPaces_4 t_pac t_there ko 0 x1 x2 = none := rfl
theorem LX9_allPaces_4_s (t_pac : Nat → Int32) (t_there : Int32) (ko : Int32 → Int32 → Option (Int32)) (n : Nat) (x1 : Int32) (x2 : Int32) : LX9_allPaces_4 t_pac t_there ko (n + 1) x1 x2 =
    if 12 ≤ x2 then
      ko x1 x2
    else
      (f_X10_has t_there x2).bind fun q6 =>
      (if q6 = 0 then
        some (0)
      else
        ri t_pac 12 (x2) fun x11 =>
        some (x11) : Option (Int32)).bind fun q7 =>
      lt ((x1 + q7) : Int32) fun x8 =>
      lt (x2 + 1 : Int32) fun x9 =>
      LX9_allPaces_4 t_pac t_there ko n x8 x9 := rfl
def f_X9_allPaces (t_pac : Nat → Int32) (t_there : Int32) : Option (Int32) :=
  LX9_allPaces_4 t_pac t_there (fun x3 x4 =>
    some (x3)) FU 0 0
abbrev rmX9_allPaces : Room := { frames := 1, cells := 0, slots := 0, locals := 21 }
set_option maxHeartbeats 4000000 in
set_option maxRecDepth 100000 in
theorem c_X9_allPaces {l : Launch} {D : va_G} {g : Nat → ClassId} {N : Nat} {ad : Nat → Nat} {C : Nat → va_E} {sz : Nat} {t_there : Int32} {t_lift : Int32} {t_none : Int32} {t_pac : Nat → Int32} {w_src : Int32}  {rr : Int32} (hN : 86 ≤ N) (h5 : C 5 = .inr (7, [.ref (ad 6), .ref (ad 7), .ref (ad 8), .ref (ad 9), .ref (ad 10), .ref (ad 11), .ref (ad 12), .ref (ad 13), .ref (ad 14), .ref (ad 15), .ref (ad 16), .ref (ad 17), .ref (ad 18), .int t_there, .int t_lift, .int t_none])) (h8 : C 8 = aI g 12 t_pac) (h19 : C 19 = .inr (9, [.ref (ad 5), .ref (ad 20), .int w_src])) (hf : f_X9_allPaces t_pac t_there = some rr) : Met l yX9_allPaces wsX9_allPaces rmX9_allPaces (PcW D g N ad C sz [.ref (ad 19)]) (QiR sz tP rr) 0 0 (An sz) := by
  refine Met.ofW (cc := cX9_allPaces) (maxL := 3) (ret := (some .int)) (by decide) rfl ?_
  intro p e s m args below meth c s₁ B hml hv
  obtain ⟨hav, hsz, hK, hP⟩ := hv
  subst hsz
  have hx := B.exec
  have hb := B.bytes
  have hr := B.returns
  have hts := atoms_spec (ws := wsX9_allPaces) B.pre
  have hown : s.vm.findClass RX9 = some m.cls := findClass_of_methodNamed B.named
  have hlocks := B.notSynchronized
  generalize hQ : MQ below (QiR s.heap.size tP rr) args s 0 0 (An s.heap.size) = QQ
  have hS : va_S (An s.heap.size) s.heap s.heap [] := va_S.rf
  have hA : ∀ q, s.heap.size ≤ q → (An s.heap.size) q := fun q h => h
  have k0 := hts (.fieldLink RX9 15 "UpDrain$Ways" "plan" "LUpDrain$Town;") (List.mem_of_getElem? (i := 1) rfl)
  have nX9 : ∀ w ∈ u_ws RX9 TX9 3, w ∈ wsX9_allPaces := fun _ h => List.mem_cons_of_mem _ (List.mem_append_left _ (List.mem_append_right _ h))
  have k2 := nf_37 (A := args) hK
  have nX7 : ∀ w ∈ u_ws RX7 TX7 16, w ∈ wsX9_allPaces := fun _ h => List.mem_cons_of_mem _ (List.mem_append_right _ h)
  have k4 := nm_5 hK
  have k5 := hts (.initialized RX10) (List.mem_of_getElem? (i := 3) rfl)
  have k6 := hts (.static yX10_has) (List.mem_of_getElem? (i := 2) rfl)
  have k7 := nf_10 (A := args) hK
  have hE := lg_entry_eq m [.ref (ad 19)] 3
  rw [← hav] at hE
  rw [hE]
  have hl := lv_entry [.ref (ad 19)] (n := 3) (Nat.le_of_ble_eq_true rfl)
  generalize (lg_sl [.ref (ad 19)] ++ List.replicate (3 - (lg_sl [.ref (ad 19)]).length) Slot.unset).toArray = ls at hl ⊢
  have hl : lv_has ls 3 [(0, .ref (ad 19))] := hl
  clear hE
  unfold f_X9_allPaces at hf
  suffices hgo : ∀ (H : Heap) (locs : List Loc), va_P D vwCl (wd N ad C) H → va_S (An s.heap.size) s.heap H locs → W p l e (headSpec wsX9_allPaces rmX9_allPaces).room s m args below meth c H locs 0 0 QQ (F0 m 0 ls []) from hgo s.heap [] hP hS
  clear hS hP
  intro H locs hP hS
  refine lv_iconst (v := 0) hx hb dX9_allPaces_0 (by decide) ?_
  refine lv_istore_n (lv' := [(1, .int 0), (0, .ref (ad 19))]) hx hb dX9_allPaces_1 rfl hl (by decide) rfl (fun ls hl => ?_)
  refine lv_iconst (v := 0) hx hb dX9_allPaces_2 (by decide) ?_
  refine lv_istore_n (lv' := [(2, .int 0), (1, .int 0), (0, .ref (ad 19))]) hx hb dX9_allPaces_3 rfl hl (by decide) rfl (fun ls hl => ?_)
  have key4 : ∀ (ko : Int32 → Int32 → Option (Int32)), (∀ (x3 : Int32) (x4 : Int32) (C : Nat → va_E) (H : Heap) (locs : List Loc) (ls : Array Slot), va_P D vwCl (wd N ad C) H → va_S (An s.heap.size) s.heap H locs → C 5 = .inr (7, [.ref (ad 6), .ref (ad 7), .ref (ad 8), .ref (ad 9), .ref (ad 10), .ref (ad 11), .ref (ad 12), .ref (ad 13), .ref (ad 14), .ref (ad 15), .ref (ad 16), .ref (ad 17), .ref (ad 18), .int t_there, .int t_lift, .int t_none]) → C 8 = aI g 12 t_pac → C 19 = .inr (9, [.ref (ad 5), .ref (ad 20), .int w_src]) → lv_has ls 3 [(0, .ref (ad 19)), (1, .int x3), (2, .int x4)] → ko x3 x4 = some rr → W p l e (headSpec wsX9_allPaces rmX9_allPaces).room s m args below meth c H locs 0 0 QQ (F0 m 46 ls [])) → ∀ (n : Nat) (x1 : Int32) (x2 : Int32) (C : Nat → va_E) (H : Heap) (locs : List Loc) (ls : Array Slot), va_P D vwCl (wd N ad C) H → va_S (An s.heap.size) s.heap H locs → C 5 = .inr (7, [.ref (ad 6), .ref (ad 7), .ref (ad 8), .ref (ad 9), .ref (ad 10), .ref (ad 11), .ref (ad 12), .ref (ad 13), .ref (ad 14), .ref (ad 15), .ref (ad 16), .ref (ad 17), .ref (ad 18), .int t_there, .int t_lift, .int t_none]) → C 8 = aI g 12 t_pac → C 19 = .inr (9, [.ref (ad 5), .ref (ad 20), .int w_src]) → lv_has ls 3 [(0, .ref (ad 19)), (1, .int x1), (2, .int x2)] → LX9_allPaces_4 t_pac t_there ko n x1 x2 = some rr → W p l e (headSpec wsX9_allPaces rmX9_allPaces).room s m args below meth c H locs 0 0 QQ (F0 m 4 ls []) := by
    intro ko hko n
    induction n with
    | zero =>
      intro x1 x2 C H locs ls hP hS h5 h8 h19 hl hf
      rw [LX9_allPaces_4_z] at hf
      cases hf
    | succ n ih =>
      intro x1 x2 C H locs ls hP hS h5 h8 h19 hl hf
      rw [LX9_allPaces_4_s] at hf
      refine lv_iload_n hx hb dX9_allPaces_4 rfl (lv_at hl 2 rfl) ?_
      refine lv_bipush (v := 12) hx hb dX9_allPaces_5 (by decide) ?_
      refine lv_icmp_ge (tgt := 46) hx hb dX9_allPaces_7 (by decide) (fun c5 => ?_) (fun c5 => ?_)
      · have hf := it_e c5 hf
        exact hko x1 x2 C H locs ls hP hS h5 h8 h19 (lv_sub hl [0, 1, 2] rfl) hf
      · have hf := ie_e c5 hf
        refine lv_iload_n hx hb dX9_allPaces_10 rfl (lv_at hl 1 rfl) ?_
        refine lv_aload_n hx hb dX9_allPaces_11 rfl (lv_at hl 0 rfl) ?_
        refine r_get (own := RX9) (T := TX9) (n := 3) (ci := 9) (v := .ref (ad 5)) hx hb hts nX9 hown hK hP (by omega) h19 rfl 0 (by decide) k0 rfl dX9_allPaces_12 ?_
        refine r_getN (own := RX9) (T := TX7) (n := 16) (ci := 7) (v := .int t_there) hx hb hts nX7 hown hK hP (by omega) h5 rfl 13 (by decide) k2 rfl dX9_allPaces_15 ?_
        refine lv_iload_n hx hb dX9_allPaces_18 rfl (lv_at hl 2 rfl) ?_
        obtain ⟨q6, hq6, hf⟩ := bd_e hf
        refine k_iR (va_runSN (As := [.int t_there, .int x2]) (rest := [.int x1]) ⟨hx, hb, hml, hown, hts⟩ (c_X10_has (l := l) (sz := H.size) (p0 := t_there) (p1 := x2) hq6) ⟨va_cnB 2 hts gX9_allPaces_X10_has_n28 rfl rfl rfl k4 k5 (by decide +kernel) ⟨Nat.le_of_ble_eq_true rfl, Nat.le_of_ble_eq_true rfl⟩, k6, trivial⟩ preS0 rfl rfl hl.1 rfl (lv_room (Nat.le_of_ble_eq_true rfl)) dX9_allPaces_19 ⟨Nat.le_of_ble_eq_true rfl, Nat.le_of_ble_eq_true rfl⟩) hA hP hS (fun H locs hP hS hbz_q6 => ?_)
        obtain ⟨q7, htq7, hf⟩ := bd_e hf
        have jnq7 : ∀ (C : Nat → va_E) (H : Heap) (locs : List Loc) (ls : Array Slot), va_P D vwCl (wd N ad C) H → va_S (An s.heap.size) s.heap H locs → C 5 = .inr (7, [.ref (ad 6), .ref (ad 7), .ref (ad 8), .ref (ad 9), .ref (ad 10), .ref (ad 11), .ref (ad 12), .ref (ad 13), .ref (ad 14), .ref (ad 15), .ref (ad 16), .ref (ad 17), .ref (ad 18), .int t_there, .int t_lift, .int t_none]) → C 8 = aI g 12 t_pac → C 19 = .inr (9, [.ref (ad 5), .ref (ad 20), .int w_src]) → lv_has ls 3 [(0, .ref (ad 19)), (1, .int x1), (2, .int x2)] → W p l e (headSpec wsX9_allPaces rmX9_allPaces).room s m args below meth c H locs 0 0 QQ (F0 m 38 ls [.int q7, .int x1]) := by
          intro C H locs ls hP hS h5 h8 h19 hl
          refine lv_iadd hx hb dX9_allPaces_38 ?_
          obtain ⟨x8, ex8, hf⟩ := lt_e hf
          refine tp_i ex8 ?_
          refine lv_istore_n (lv' := [(1, .int x8), (0, .ref (ad 19)), (2, .int x2)]) hx hb dX9_allPaces_39 rfl hl (by decide) rfl (fun ls hl => ?_)
          obtain ⟨x9, ex9, hf⟩ := lt_e hf
          refine lv_iinc (v := x9) (lv' := [(2, .int x9), (1, .int x8), (0, .ref (ad 19))]) hx hb dX9_allPaces_40 hl (k := 2) rfl (by rw [ex9]; rfl) (by decide) rfl (fun ls hl => ?_)
          refine lv_goto (tgt := 4) hx hb dX9_allPaces_43 (by decide) ?_
          exact ih x8 x9 C H locs ls hP hS h5 h8 h19 (lv_sub hl [2, 1, 0] rfl) hf
        clear hf
        have hf := htq7
        refine lv_if_eq (tgt := 37) hx hb dX9_allPaces_22 (by decide) (fun c10 => ?_) (fun c10 => ?_)
        · have hf := it_e c10 hf
          refine lv_iconst (v := 0) hx hb dX9_allPaces_37 (by decide) ?_
          obtain rfl := Option.some.inj hf
          exact jnq7 C H locs ls hP hS h5 h8 h19 (lv_sub hl [0, 1, 2] rfl)
        · have hf := ie_e c10 hf
          refine lv_aload_n hx hb dX9_allPaces_25 rfl (lv_at hl 0 rfl) ?_
          refine r_get (own := RX9) (T := TX9) (n := 3) (ci := 9) (v := .ref (ad 5)) hx hb hts nX9 hown hK hP (by omega) h19 rfl 0 (by decide) k0 rfl dX9_allPaces_26 ?_
          refine r_getN (own := RX9) (T := TX7) (n := 16) (ci := 7) (v := .ref (ad 8)) hx hb hts nX7 hown hK hP (by omega) h5 rfl 2 (by decide) k7 rfl dX9_allPaces_29 ?_
          refine lv_iload_n hx hb dX9_allPaces_32 rfl (lv_at hl 2 rfl) ?_
          obtain ⟨i12, x11, ex11, hf⟩ := ri_e hf
          refine r_iald hx hb hK hP (by omega) h8 i12 dX9_allPaces_33 ex11 ?_
          refine lv_goto (tgt := 38) hx hb dX9_allPaces_34 (by decide) ?_
          obtain rfl := Option.some.inj hf
          exact jnq7 C H locs ls hP hS h5 h8 h19 (lv_sub hl [0, 1, 2] rfl)
  refine key4 _ (fun x3 x4 C H locs ls hP hS h5 h8 h19 hl hf => ?_) FU 0 0 C H locs ls hP hS h5 h8 h19 (lv_sub hl [2, 1, 0] rfl) hf
  refine lv_iload_n hx hb dX9_allPaces_46 rfl (lv_at hl 1 rfl) ?_
  obtain rfl := Option.some.inj hf
  rw [← hQ]
  exact e_iR hx hb hr rfl (tP_i _) hS hlocks dX9_allPaces_47

def f_X7_lay (p0 : Int32) (p1 : Int32) (p2 : Int32) (p3 : Int32) (p4 : Int32) (t_down : Nat → Int32) (t_min : Nat → Int32) (t_pac : Nat → Int32) (t_gone : Nat → Int32) (t_there : Int32) : Option ((Nat → Int32) × (Nat → Int32) × (Nat → Int32) × (Nat → Int32) × Int32) :=
  lt ((t_there ||| (1 <<< (p0 &&& 31))) : Int32) fun x1 =>
  wi t_down 12 (p0) (p1) fun f2 =>
  wi t_min 12 (p0) (p2) fun f4 =>
  wi t_pac 12 (p0) (p3) fun f6 =>
  wi t_gone 12 (p0) (p4) fun f8 =>
  some (f2, f4, f6, f8, x1)
abbrev rmX7_lay : Room := { frames := 0, cells := 0, slots := 0, locals := 0 }
set_option maxHeartbeats 4000000 in
set_option maxRecDepth 100000 in
theorem c_X7_lay {l : Launch} {D : va_G} {g : Nat → ClassId} {N : Nat} {ad : Nat → Nat} {C : Nat → va_E} {sz : Nat} {t_there : Int32} {t_lift : Int32} {t_none : Int32} {t_down : Nat → Int32} {t_min : Nat → Int32} {t_pac : Nat → Int32} {t_gone : Nat → Int32} {p0 : Int32} {p1 : Int32} {p2 : Int32} {p3 : Int32} {p4 : Int32} {rr : (Nat → Int32) × (Nat → Int32) × (Nat → Int32) × (Nat → Int32) × Int32} (hN : 86 ≤ N) (hI : Inj N ad) (h5 : C 5 = .inr (7, [.ref (ad 6), .ref (ad 7), .ref (ad 8), .ref (ad 9), .ref (ad 10), .ref (ad 11), .ref (ad 12), .ref (ad 13), .ref (ad 14), .ref (ad 15), .ref (ad 16), .ref (ad 17), .ref (ad 18), .int t_there, .int t_lift, .int t_none])) (h6 : C 6 = aI g 12 t_down) (h7 : C 7 = aI g 12 t_min) (h8 : C 8 = aI g 12 t_pac) (h9 : C 9 = aI g 12 t_gone) (hf : f_X7_lay p0 p1 p2 p3 p4 t_down t_min t_pac t_gone t_there = some rr) : Met l yX7_lay wsX7_lay rmX7_lay (PcW D g N ad C sz [.ref (ad 5), .int p0, .int p1, .int p2, .int p3, .int p4]) (QvW D N ad sz (fun C' => (∀ i : Nat, i ≠ 5 ∧ i ≠ 6 ∧ i ≠ 7 ∧ i ≠ 8 ∧ i ≠ 9 → C' i = C i) ∧ (C' 5 = .inr (7, [.ref (ad 6), .ref (ad 7), .ref (ad 8), .ref (ad 9), .ref (ad 10), .ref (ad 11), .ref (ad 12), .ref (ad 13), .ref (ad 14), .ref (ad 15), .ref (ad 16), .ref (ad 17), .ref (ad 18), .int rr.2.2.2.2, .int t_lift, .int t_none])) ∧ (C' 6 = aI g 12 rr.1) ∧ (C' 7 = aI g 12 rr.2.1) ∧ (C' 8 = aI g 12 rr.2.2.1) ∧ (C' 9 = aI g 12 rr.2.2.2.1))) 0 0 (Aw N ad sz) := by
  refine Met.ofW (cc := cX7_lay) (maxL := 6) (ret := none) (by decide) rfl ?_
  intro p e s m args below meth c s₁ B hml hv
  obtain ⟨hav, hsz, hK, hP⟩ := hv
  subst hsz
  have hx := B.exec
  have hb := B.bytes
  have hr := B.returns
  have hts := atoms_spec (ws := wsX7_lay) B.pre
  have hown : s.vm.findClass RX7 = some m.cls := findClass_of_methodNamed B.named
  have hlocks := B.notSynchronized
  generalize hQ : MQ below (QvW D N ad s.heap.size (fun C' => (∀ i : Nat, i ≠ 5 ∧ i ≠ 6 ∧ i ≠ 7 ∧ i ≠ 8 ∧ i ≠ 9 → C' i = C i) ∧ (C' 5 = .inr (7, [.ref (ad 6), .ref (ad 7), .ref (ad 8), .ref (ad 9), .ref (ad 10), .ref (ad 11), .ref (ad 12), .ref (ad 13), .ref (ad 14), .ref (ad 15), .ref (ad 16), .ref (ad 17), .ref (ad 18), .int rr.2.2.2.2, .int t_lift, .int t_none])) ∧ (C' 6 = aI g 12 rr.1) ∧ (C' 7 = aI g 12 rr.2.1) ∧ (C' 8 = aI g 12 rr.2.2.1) ∧ (C' 9 = aI g 12 rr.2.2.2.1))) args s 0 0 (Aw N ad s.heap.size) = QQ
  have hS : va_S (Aw N ad s.heap.size) s.heap s.heap [] := va_S.rf
  have hA : ∀ q, s.heap.size ≤ q → (Aw N ad s.heap.size) q := fun q h => Or.inr h
  have hAd : ∀ j : Nat, j < N → (Aw N ad s.heap.size) (ad j) := fun j h => Or.inl ⟨j, h, rfl⟩
  obtain ⟨C0, hC0⟩ : ∃ C0 : Nat → va_E, C0 = C := ⟨_, rfl⟩
  have hag : ∀ i : Nat, i ≠ 5 ∧ i ≠ 6 ∧ i ≠ 7 ∧ i ≠ 8 ∧ i ≠ 9 → C i = C0 i := fun i _ => by rw [hC0]
  rw [← hC0] at hQ
  have k0 := hts (.fieldLink RX7 51 "UpDrain$Town" "there" "I") (List.mem_of_getElem? (i := 1) rfl)
  have nX7 : ∀ w ∈ u_ws RX7 TX7 16, w ∈ wsX7_lay := fun _ h => List.mem_cons_of_mem _ (List.mem_append_right _ h)
  have k2 := hts (.fieldLink RX7 9 "UpDrain$Town" "down" "[I") (List.mem_of_getElem? (i := 2) rfl)
  have k3 := hts (.fieldLink RX7 15 "UpDrain$Town" "minutes" "[I") (List.mem_of_getElem? (i := 3) rfl)
  have k4 := hts (.fieldLink RX7 18 "UpDrain$Town" "paces" "[I") (List.mem_of_getElem? (i := 4) rfl)
  have k5 := hts (.fieldLink RX7 21 "UpDrain$Town" "gone" "[I") (List.mem_of_getElem? (i := 5) rfl)
  have hE := lg_entry_eq m [.ref (ad 5), .int p0, .int p1, .int p2, .int p3, .int p4] 6
  rw [← hav] at hE
  rw [hE]
  have hl := lv_entry [.ref (ad 5), .int p0, .int p1, .int p2, .int p3, .int p4] (n := 6) (Nat.le_of_ble_eq_true rfl)
  generalize (lg_sl [.ref (ad 5), .int p0, .int p1, .int p2, .int p3, .int p4] ++ List.replicate (6 - (lg_sl [.ref (ad 5), .int p0, .int p1, .int p2, .int p3, .int p4]).length) Slot.unset).toArray = ls at hl ⊢
  have hl : lv_has ls 6 [(0, .ref (ad 5)), (1, .int p0), (2, .int p1), (3, .int p2), (4, .int p3), (5, .int p4)] := hl
  clear hE
  unfold f_X7_lay at hf
  suffices hgo : ∀ (H : Heap) (locs : List Loc), va_P D vwCl (wd N ad C) H → va_S (Aw N ad s.heap.size) s.heap H locs → W p l e (headSpec wsX7_lay rmX7_lay).room s m args below meth c H locs 0 0 QQ (F0 m 0 ls []) from hgo s.heap [] hP hS
  clear hS hP
  intro H locs hP hS
  refine lv_aload_n hx hb dX7_lay_0 rfl (lv_at hl 0 rfl) ?_
  refine lv_dup hx hb dX7_lay_1 rfl ?_
  refine r_get (own := RX7) (T := TX7) (n := 16) (ci := 7) (v := .int t_there) hx hb hts nX7 hown hK hP (by omega) h5 rfl 13 (by decide) k0 rfl dX7_lay_2 ?_
  refine lv_iconst (v := 1) hx hb dX7_lay_5 (by decide) ?_
  refine lv_iload_n hx hb dX7_lay_6 rfl (lv_at hl 1 rfl) ?_
  refine lv_ishl hx hb dX7_lay_7 ?_
  refine lv_ior hx hb dX7_lay_8 ?_
  obtain ⟨x1, ex1, hf⟩ := lt_e hf
  refine tp_i ex1 ?_
  refine r_put (own := RX7) (T := TX7) (n := 16) (ci := 7) (v := .int x1) hx hb hts nX7 tyX7 tyX7_ok nmX7 hown hK hI hAd hP hS (by omega) h5 rfl 13 (by decide) k0 rfl rfl rfl (Nat.le_of_ble_eq_true rfl) dX7_lay_9 (fun C H locs hP hS he hn => ?_)
  have hag : ∀ i : Nat, i ≠ 5 ∧ i ≠ 6 ∧ i ≠ 7 ∧ i ≠ 8 ∧ i ≠ 9 → C i = C0 i := fun i h => (he i (by omega)).trans (hag i h)
  have h6 := (he 6 (by decide)).trans h6
  have h7 := (he 7 (by decide)).trans h7
  have h8 := (he 8 (by decide)).trans h8
  have h9 := (he 9 (by decide)).trans h9
  have h5 : C 5 = .inr (7, [.ref (ad 6), .ref (ad 7), .ref (ad 8), .ref (ad 9), .ref (ad 10), .ref (ad 11), .ref (ad 12), .ref (ad 13), .ref (ad 14), .ref (ad 15), .ref (ad 16), .ref (ad 17), .ref (ad 18), .int x1, .int t_lift, .int t_none]) := hn
  refine lv_aload_n hx hb dX7_lay_12 rfl (lv_at hl 0 rfl) ?_
  refine r_get (own := RX7) (T := TX7) (n := 16) (ci := 7) (v := .ref (ad 6)) hx hb hts nX7 hown hK hP (by omega) h5 rfl 0 (by decide) k2 rfl dX7_lay_13 ?_
  refine lv_iload_n hx hb dX7_lay_16 rfl (lv_at hl 1 rfl) ?_
  refine lv_iload_n hx hb dX7_lay_17 rfl (lv_at hl 2 rfl) ?_
  obtain ⟨i3, f2, ef2, hf⟩ := wi_e hf
  refine r_iast hx hb hK hI hAd hP hS (by omega) h6 i3 dX7_lay_18 ef2 (fun C H locs hP hS he hn => ?_)
  have hag : ∀ i : Nat, i ≠ 5 ∧ i ≠ 6 ∧ i ≠ 7 ∧ i ≠ 8 ∧ i ≠ 9 → C i = C0 i := fun i h => (he i (by omega)).trans (hag i h)
  have h5 := (he 5 (by decide)).trans h5
  have h7 := (he 7 (by decide)).trans h7
  have h8 := (he 8 (by decide)).trans h8
  have h9 := (he 9 (by decide)).trans h9
  have h6 : C 6 = aI g 12 f2 := hn
  refine lv_aload_n hx hb dX7_lay_19 rfl (lv_at hl 0 rfl) ?_
  refine r_get (own := RX7) (T := TX7) (n := 16) (ci := 7) (v := .ref (ad 7)) hx hb hts nX7 hown hK hP (by omega) h5 rfl 1 (by decide) k3 rfl dX7_lay_20 ?_
  refine lv_iload_n hx hb dX7_lay_23 rfl (lv_at hl 1 rfl) ?_
  refine lv_iload_n hx hb dX7_lay_24 rfl (lv_at hl 3 rfl) ?_
  obtain ⟨i5, f4, ef4, hf⟩ := wi_e hf
  refine r_iast hx hb hK hI hAd hP hS (by omega) h7 i5 dX7_lay_25 ef4 (fun C H locs hP hS he hn => ?_)
  have hag : ∀ i : Nat, i ≠ 5 ∧ i ≠ 6 ∧ i ≠ 7 ∧ i ≠ 8 ∧ i ≠ 9 → C i = C0 i := fun i h => (he i (by omega)).trans (hag i h)
  have h5 := (he 5 (by decide)).trans h5
  have h6 := (he 6 (by decide)).trans h6
  have h8 := (he 8 (by decide)).trans h8
  have h9 := (he 9 (by decide)).trans h9
  have h7 : C 7 = aI g 12 f4 := hn
  refine lv_aload_n hx hb dX7_lay_26 rfl (lv_at hl 0 rfl) ?_
  refine r_get (own := RX7) (T := TX7) (n := 16) (ci := 7) (v := .ref (ad 8)) hx hb hts nX7 hown hK hP (by omega) h5 rfl 2 (by decide) k4 rfl dX7_lay_27 ?_
  refine lv_iload_n hx hb dX7_lay_30 rfl (lv_at hl 1 rfl) ?_
  refine lv_iload hx hb dX7_lay_31 (lv_at hl 4 rfl) ?_
  obtain ⟨i7, f6, ef6, hf⟩ := wi_e hf
  refine r_iast hx hb hK hI hAd hP hS (by omega) h8 i7 dX7_lay_33 ef6 (fun C H locs hP hS he hn => ?_)
  have hag : ∀ i : Nat, i ≠ 5 ∧ i ≠ 6 ∧ i ≠ 7 ∧ i ≠ 8 ∧ i ≠ 9 → C i = C0 i := fun i h => (he i (by omega)).trans (hag i h)
  have h5 := (he 5 (by decide)).trans h5
  have h6 := (he 6 (by decide)).trans h6
  have h7 := (he 7 (by decide)).trans h7
  have h9 := (he 9 (by decide)).trans h9
  have h8 : C 8 = aI g 12 f6 := hn
  refine lv_aload_n hx hb dX7_lay_34 rfl (lv_at hl 0 rfl) ?_
  refine r_get (own := RX7) (T := TX7) (n := 16) (ci := 7) (v := .ref (ad 9)) hx hb hts nX7 hown hK hP (by omega) h5 rfl 3 (by decide) k5 rfl dX7_lay_35 ?_
  refine lv_iload_n hx hb dX7_lay_38 rfl (lv_at hl 1 rfl) ?_
  refine lv_iload hx hb dX7_lay_39 (lv_at hl 5 rfl) ?_
  obtain ⟨i9, f8, ef8, hf⟩ := wi_e hf
  refine r_iast hx hb hK hI hAd hP hS (by omega) h9 i9 dX7_lay_41 ef8 (fun C H locs hP hS he hn => ?_)
  have hag : ∀ i : Nat, i ≠ 5 ∧ i ≠ 6 ∧ i ≠ 7 ∧ i ≠ 8 ∧ i ≠ 9 → C i = C0 i := fun i h => (he i (by omega)).trans (hag i h)
  have h5 := (he 5 (by decide)).trans h5
  have h6 := (he 6 (by decide)).trans h6
  have h7 := (he 7 (by decide)).trans h7
  have h8 := (he 8 (by decide)).trans h8
  have h9 : C 9 = aI g 12 f8 := hn
  obtain rfl := Option.some.inj hf
  rw [← hQ]
  exact e_vW hx hb hr hP hS ⟨hag, h5, h6, h7, h8, h9⟩ hlocks dX7_lay_42

def f_X7_layFrom (p0 : Int32) (p1 : Int32) (p2 : Int32) (p3 : Int32) (p4 : Int32) (t_down : Nat → Int32) (t_min : Nat → Int32) (t_pac : Nat → Int32) (t_gone : Nat → Int32) (t_there : Int32) : Option ((Nat → Int32) × (Nat → Int32) × (Nat → Int32) × (Nat → Int32) × Int32) :=
  (f_X10_has t_there p1).bind fun q1 =>
  (if q1 = 0 then
    (f_X7_lay p1 0 0 1 0 t_down t_min t_pac t_gone t_there).bind fun q5 =>
    some (q5.1, q5.2.2.2.1, q5.2.1, q5.2.2.1, q5.2.2.2.2)
  else
    some (t_down, t_gone, t_min, t_pac, t_there) : Option ((Nat → Int32) × (Nat → Int32) × (Nat → Int32) × (Nat → Int32) × Int32)).bind fun q2 =>
  (f_X7_lay p0 p1 p2 p3 p4 q2.1 q2.2.2.1 q2.2.2.2.1 q2.2.1 q2.2.2.2.2).bind fun q3 =>
  some (q3.1, q3.2.1, q3.2.2.1, q3.2.2.2.1, q3.2.2.2.2)
abbrev rmX7_layFrom : Room := { frames := 1, cells := 0, slots := 0, locals := 25 }
set_option maxHeartbeats 4000000 in
set_option maxRecDepth 100000 in
theorem c_X7_layFrom {l : Launch} {D : va_G} {g : Nat → ClassId} {N : Nat} {ad : Nat → Nat} {C : Nat → va_E} {sz : Nat} {t_there : Int32} {t_lift : Int32} {t_none : Int32} {t_down : Nat → Int32} {t_min : Nat → Int32} {t_pac : Nat → Int32} {t_gone : Nat → Int32} {p0 : Int32} {p1 : Int32} {p2 : Int32} {p3 : Int32} {p4 : Int32} {rr : (Nat → Int32) × (Nat → Int32) × (Nat → Int32) × (Nat → Int32) × Int32} (hN : 86 ≤ N) (hI : Inj N ad) (h5 : C 5 = .inr (7, [.ref (ad 6), .ref (ad 7), .ref (ad 8), .ref (ad 9), .ref (ad 10), .ref (ad 11), .ref (ad 12), .ref (ad 13), .ref (ad 14), .ref (ad 15), .ref (ad 16), .ref (ad 17), .ref (ad 18), .int t_there, .int t_lift, .int t_none])) (h6 : C 6 = aI g 12 t_down) (h7 : C 7 = aI g 12 t_min) (h8 : C 8 = aI g 12 t_pac) (h9 : C 9 = aI g 12 t_gone) (hf : f_X7_layFrom p0 p1 p2 p3 p4 t_down t_min t_pac t_gone t_there = some rr) : Met l yX7_layFrom wsX7_layFrom rmX7_layFrom (PcW D g N ad C sz [.ref (ad 5), .int p0, .int p1, .int p2, .int p3, .int p4]) (QvW D N ad sz (fun C' => (∀ i : Nat, i ≠ 5 ∧ i ≠ 6 ∧ i ≠ 7 ∧ i ≠ 8 ∧ i ≠ 9 → C' i = C i) ∧ (C' 5 = .inr (7, [.ref (ad 6), .ref (ad 7), .ref (ad 8), .ref (ad 9), .ref (ad 10), .ref (ad 11), .ref (ad 12), .ref (ad 13), .ref (ad 14), .ref (ad 15), .ref (ad 16), .ref (ad 17), .ref (ad 18), .int rr.2.2.2.2, .int t_lift, .int t_none])) ∧ (C' 6 = aI g 12 rr.1) ∧ (C' 7 = aI g 12 rr.2.1) ∧ (C' 8 = aI g 12 rr.2.2.1) ∧ (C' 9 = aI g 12 rr.2.2.2.1))) 0 0 (Aw N ad sz) := by
  refine Met.ofW (cc := cX7_layFrom) (maxL := 6) (ret := none) (by decide) rfl ?_
  intro p e s m args below meth c s₁ B hml hv
  obtain ⟨hav, hsz, hK, hP⟩ := hv
  subst hsz
  have hx := B.exec
  have hb := B.bytes
  have hr := B.returns
  have hts := atoms_spec (ws := wsX7_layFrom) B.pre
  have hown : s.vm.findClass RX7 = some m.cls := findClass_of_methodNamed B.named
  have hlocks := B.notSynchronized
  generalize hQ : MQ below (QvW D N ad s.heap.size (fun C' => (∀ i : Nat, i ≠ 5 ∧ i ≠ 6 ∧ i ≠ 7 ∧ i ≠ 8 ∧ i ≠ 9 → C' i = C i) ∧ (C' 5 = .inr (7, [.ref (ad 6), .ref (ad 7), .ref (ad 8), .ref (ad 9), .ref (ad 10), .ref (ad 11), .ref (ad 12), .ref (ad 13), .ref (ad 14), .ref (ad 15), .ref (ad 16), .ref (ad 17), .ref (ad 18), .int rr.2.2.2.2, .int t_lift, .int t_none])) ∧ (C' 6 = aI g 12 rr.1) ∧ (C' 7 = aI g 12 rr.2.1) ∧ (C' 8 = aI g 12 rr.2.2.1) ∧ (C' 9 = aI g 12 rr.2.2.2.1))) args s 0 0 (Aw N ad s.heap.size) = QQ
  have hS : va_S (Aw N ad s.heap.size) s.heap s.heap [] := va_S.rf
  have hA : ∀ q, s.heap.size ≤ q → (Aw N ad s.heap.size) q := fun q h => Or.inr h
  have hAd : ∀ j : Nat, j < N → (Aw N ad s.heap.size) (ad j) := fun j h => Or.inl ⟨j, h, rfl⟩
  obtain ⟨C0, hC0⟩ : ∃ C0 : Nat → va_E, C0 = C := ⟨_, rfl⟩
  have hag : ∀ i : Nat, i ≠ 5 ∧ i ≠ 6 ∧ i ≠ 7 ∧ i ≠ 8 ∧ i ≠ 9 → C i = C0 i := fun i _ => by rw [hC0]
  rw [← hC0] at hQ
  have k0 := hts (.fieldLink RX7 51 "UpDrain$Town" "there" "I") (List.mem_of_getElem? (i := 1) rfl)
  have nX7 : ∀ w ∈ u_ws RX7 TX7 16, w ∈ wsX7_layFrom := fun _ h => List.mem_cons_of_mem _ (List.mem_append_right _ h)
  have k2 := nm_7 hK
  have k3 := hts (.initialized RX10) (List.mem_of_getElem? (i := 3) rfl)
  have k4 := hts (.static yX10_has) (List.mem_of_getElem? (i := 2) rfl)
  have hE := lg_entry_eq m [.ref (ad 5), .int p0, .int p1, .int p2, .int p3, .int p4] 6
  rw [← hav] at hE
  rw [hE]
  have hl := lv_entry [.ref (ad 5), .int p0, .int p1, .int p2, .int p3, .int p4] (n := 6) (Nat.le_of_ble_eq_true rfl)
  generalize (lg_sl [.ref (ad 5), .int p0, .int p1, .int p2, .int p3, .int p4] ++ List.replicate (6 - (lg_sl [.ref (ad 5), .int p0, .int p1, .int p2, .int p3, .int p4]).length) Slot.unset).toArray = ls at hl ⊢
  have hl : lv_has ls 6 [(0, .ref (ad 5)), (1, .int p0), (2, .int p1), (3, .int p2), (4, .int p3), (5, .int p4)] := hl
  clear hE
  unfold f_X7_layFrom at hf
  suffices hgo : ∀ (H : Heap) (locs : List Loc), va_P D vwCl (wd N ad C) H → va_S (Aw N ad s.heap.size) s.heap H locs → W p l e (headSpec wsX7_layFrom rmX7_layFrom).room s m args below meth c H locs 0 0 QQ (F0 m 0 ls []) from hgo s.heap [] hP hS
  clear hS hP
  intro H locs hP hS
  refine lv_aload_n hx hb dX7_layFrom_0 rfl (lv_at hl 0 rfl) ?_
  refine r_get (own := RX7) (T := TX7) (n := 16) (ci := 7) (v := .int t_there) hx hb hts nX7 hown hK hP (by omega) h5 rfl 13 (by decide) k0 rfl dX7_layFrom_1 ?_
  refine lv_iload_n hx hb dX7_layFrom_4 rfl (lv_at hl 2 rfl) ?_
  obtain ⟨q1, hq1, hf⟩ := bd_e hf
  refine k_iR (va_runSN (As := [.int t_there, .int p1]) (rest := []) ⟨hx, hb, hml, hown, hts⟩ (c_X10_has (l := l) (sz := H.size) (p0 := t_there) (p1 := p1) hq1) ⟨va_cnB 2 hts gX7_layFrom_X10_has_n78 rfl rfl rfl k2 k3 (by decide +kernel) ⟨Nat.le_of_ble_eq_true rfl, Nat.le_of_ble_eq_true rfl⟩, k4, trivial⟩ preS0 rfl rfl hl.1 rfl (lv_room (Nat.le_of_ble_eq_true rfl)) dX7_layFrom_5 ⟨Nat.le_of_ble_eq_true rfl, Nat.le_of_ble_eq_true rfl⟩) hA hP hS (fun H locs hP hS hbz_q1 => ?_)
  obtain ⟨q2, htq2, hf⟩ := bd_e hf
  have jnq2 : ∀ (C : Nat → va_E) (H : Heap) (locs : List Loc) (ls : Array Slot), va_P D vwCl (wd N ad C) H → va_S (Aw N ad s.heap.size) s.heap H locs → (∀ i : Nat, i ≠ 5 ∧ i ≠ 6 ∧ i ≠ 7 ∧ i ≠ 8 ∧ i ≠ 9 → C i = C0 i) → C 5 = .inr (7, [.ref (ad 6), .ref (ad 7), .ref (ad 8), .ref (ad 9), .ref (ad 10), .ref (ad 11), .ref (ad 12), .ref (ad 13), .ref (ad 14), .ref (ad 15), .ref (ad 16), .ref (ad 17), .ref (ad 18), .int q2.2.2.2.2, .int t_lift, .int t_none]) → C 6 = aI g 12 q2.1 → C 7 = aI g 12 q2.2.2.1 → C 8 = aI g 12 q2.2.2.2.1 → C 9 = aI g 12 q2.2.1 → lv_has ls 6 [(0, .ref (ad 5)), (1, .int p0), (2, .int p1), (3, .int p2), (4, .int p3), (5, .int p4)] → W p l e (headSpec wsX7_layFrom rmX7_layFrom).room s m args below meth c H locs 0 0 QQ (F0 m 20 ls []) := by
    intro C H locs ls hP hS hag h5 h6 h7 h8 h9 hl
    refine lv_aload_n hx hb dX7_layFrom_20 rfl (lv_at hl 0 rfl) ?_
    refine lv_iload_n hx hb dX7_layFrom_21 rfl (lv_at hl 1 rfl) ?_
    refine lv_iload_n hx hb dX7_layFrom_22 rfl (lv_at hl 2 rfl) ?_
    refine lv_iload_n hx hb dX7_layFrom_23 rfl (lv_at hl 3 rfl) ?_
    refine lv_iload hx hb dX7_layFrom_24 (lv_at hl 4 rfl) ?_
    refine lv_iload hx hb dX7_layFrom_26 (lv_at hl 5 rfl) ?_
    obtain ⟨q3, hq3, hf⟩ := bd_e hf
    refine k_vW (va_runV (C := RX7) (As := [.int p0, .int p1, .int p2, .int p3, .int p4]) (rest := []) ⟨hx, hb, hml, hown, hts⟩ (c_X7_lay (l := l) (sz := H.size) (p0 := p0) (p1 := p1) (p2 := p2) (p3 := p3) (p4 := p4) hN hI h5 h6 h7 h8 h9 hq3) (cwV 5 hts gX7_layFrom_X7_lay rfl rfl rfl (by decide +kernel) ⟨Nat.le_of_ble_eq_true rfl, Nat.le_of_ble_eq_true rfl⟩) (preV_of hK hP (by omega) h5 rfl) rfl rfl hl.1 rfl (lv_room (Nat.le_of_ble_eq_true rfl)) dX7_layFrom_28 ⟨Nat.le_of_ble_eq_true rfl, Nat.le_of_ble_eq_true rfl⟩) hA hAd hS (fun C H locs hP hS hpo => ?_)
    obtain ⟨he, h5, h6, h7, h8, h9⟩ := hpo
    have hag : ∀ i : Nat, i ≠ 5 ∧ i ≠ 6 ∧ i ≠ 7 ∧ i ≠ 8 ∧ i ≠ 9 → C i = C0 i := fun i h => (he i (by omega)).trans (hag i h)
    obtain rfl := Option.some.inj hf
    rw [← hQ]
    exact e_vW hx hb hr hP hS ⟨hag, h5, h6, h7, h8, h9⟩ hlocks dX7_layFrom_31
  clear hf
  have hf := htq2
  refine lv_if_ne (tgt := 20) hx hb dX7_layFrom_8 (by decide) (fun c4 => ?_) (fun c4 => ?_)
  · have hf := ie_e c4 hf
    obtain rfl := Option.some.inj hf
    exact jnq2 C H locs ls hP hS hag h5 h6 h7 h8 h9 (lv_sub hl [0, 1, 2, 3, 4, 5] rfl)
  · have hf := it_e c4 hf
    refine lv_aload_n hx hb dX7_layFrom_11 rfl (lv_at hl 0 rfl) ?_
    refine lv_iload_n hx hb dX7_layFrom_12 rfl (lv_at hl 2 rfl) ?_
    refine lv_iconst (v := 0) hx hb dX7_layFrom_13 (by decide) ?_
    refine lv_iconst (v := 0) hx hb dX7_layFrom_14 (by decide) ?_
    refine lv_iconst (v := 1) hx hb dX7_layFrom_15 (by decide) ?_
    refine lv_iconst (v := 0) hx hb dX7_layFrom_16 (by decide) ?_
    obtain ⟨q5, hq5, hf⟩ := bd_e hf
    refine k_vW (va_runV (C := RX7) (As := [.int p1, .int 0, .int 0, .int 1, .int 0]) (rest := []) ⟨hx, hb, hml, hown, hts⟩ (c_X7_lay (l := l) (sz := H.size) (p0 := p1) (p1 := 0) (p2 := 0) (p3 := 1) (p4 := 0) hN hI h5 h6 h7 h8 h9 hq5) (cwV 5 hts gX7_layFrom_X7_lay rfl rfl rfl (by decide +kernel) ⟨Nat.le_of_ble_eq_true rfl, Nat.le_of_ble_eq_true rfl⟩) (preV_of hK hP (by omega) h5 rfl) rfl rfl hl.1 rfl (lv_room (Nat.le_of_ble_eq_true rfl)) dX7_layFrom_17 ⟨Nat.le_of_ble_eq_true rfl, Nat.le_of_ble_eq_true rfl⟩) hA hAd hS (fun C H locs hP hS hpo => ?_)
    obtain ⟨he, h5, h6, h7, h8, h9⟩ := hpo
    have hag : ∀ i : Nat, i ≠ 5 ∧ i ≠ 6 ∧ i ≠ 7 ∧ i ≠ 8 ∧ i ≠ 9 → C i = C0 i := fun i h => (he i (by omega)).trans (hag i h)
    obtain rfl := Option.some.inj hf
    exact jnq2 C H locs ls hP hS hag h5 h6 h7 h8 h9 (lv_sub hl [0, 1, 2, 3, 4, 5] rfl)

def f_X7_openBetween (p0 : Int32) (p1 : Int32) (p2 : Int32) (t_from : Nat → Int32) (t_unt : Nat → Int32) : Option ((Nat → Int32) × (Nat → Int32)) :=
  wi t_from 12 (p0) (p1) fun f1 =>
  wi t_unt 12 (p0) (p2) fun f3 =>
  some (f1, f3)
abbrev rmX7_openBetween : Room := { frames := 0, cells := 0, slots := 0, locals := 0 }
set_option maxHeartbeats 4000000 in
set_option maxRecDepth 100000 in
theorem c_X7_openBetween {l : Launch} {D : va_G} {g : Nat → ClassId} {N : Nat} {ad : Nat → Nat} {C : Nat → va_E} {sz : Nat} {t_there : Int32} {t_lift : Int32} {t_none : Int32} {t_from : Nat → Int32} {t_unt : Nat → Int32} {p0 : Int32} {p1 : Int32} {p2 : Int32} {rr : (Nat → Int32) × (Nat → Int32)} (hN : 86 ≤ N) (hI : Inj N ad) (h5 : C 5 = .inr (7, [.ref (ad 6), .ref (ad 7), .ref (ad 8), .ref (ad 9), .ref (ad 10), .ref (ad 11), .ref (ad 12), .ref (ad 13), .ref (ad 14), .ref (ad 15), .ref (ad 16), .ref (ad 17), .ref (ad 18), .int t_there, .int t_lift, .int t_none])) (h13 : C 13 = aI g 12 t_from) (h14 : C 14 = aI g 12 t_unt) (hf : f_X7_openBetween p0 p1 p2 t_from t_unt = some rr) : Met l yX7_openBetween wsX7_openBetween rmX7_openBetween (PcW D g N ad C sz [.ref (ad 5), .int p0, .int p1, .int p2]) (QvW D N ad sz (fun C' => (∀ i : Nat, i ≠ 13 ∧ i ≠ 14 → C' i = C i) ∧ (C' 13 = aI g 12 rr.1) ∧ (C' 14 = aI g 12 rr.2))) 0 0 (Aw N ad sz) := by
  refine Met.ofW (cc := cX7_openBetween) (maxL := 4) (ret := none) (by decide) rfl ?_
  intro p e s m args below meth c s₁ B hml hv
  obtain ⟨hav, hsz, hK, hP⟩ := hv
  subst hsz
  have hx := B.exec
  have hb := B.bytes
  have hr := B.returns
  have hts := atoms_spec (ws := wsX7_openBetween) B.pre
  have hown : s.vm.findClass RX7 = some m.cls := findClass_of_methodNamed B.named
  have hlocks := B.notSynchronized
  generalize hQ : MQ below (QvW D N ad s.heap.size (fun C' => (∀ i : Nat, i ≠ 13 ∧ i ≠ 14 → C' i = C i) ∧ (C' 13 = aI g 12 rr.1) ∧ (C' 14 = aI g 12 rr.2))) args s 0 0 (Aw N ad s.heap.size) = QQ
  have hS : va_S (Aw N ad s.heap.size) s.heap s.heap [] := va_S.rf
  have hA : ∀ q, s.heap.size ≤ q → (Aw N ad s.heap.size) q := fun q h => Or.inr h
  have hAd : ∀ j : Nat, j < N → (Aw N ad s.heap.size) (ad j) := fun j h => Or.inl ⟨j, h, rfl⟩
  obtain ⟨C0, hC0⟩ : ∃ C0 : Nat → va_E, C0 = C := ⟨_, rfl⟩
  have hag : ∀ i : Nat, i ≠ 13 ∧ i ≠ 14 → C i = C0 i := fun i _ => by rw [hC0]
  rw [← hC0] at hQ
  have k0 := hts (.fieldLink RX7 33 "UpDrain$Town" "from" "[I") (List.mem_of_getElem? (i := 1) rfl)
  have nX7 : ∀ w ∈ u_ws RX7 TX7 16, w ∈ wsX7_openBetween := fun _ h => List.mem_cons_of_mem _ (List.mem_append_right _ h)
  have k2 := hts (.fieldLink RX7 36 "UpDrain$Town" "until" "[I") (List.mem_of_getElem? (i := 2) rfl)
  have hE := lg_entry_eq m [.ref (ad 5), .int p0, .int p1, .int p2] 4
  rw [← hav] at hE
  rw [hE]
  have hl := lv_entry [.ref (ad 5), .int p0, .int p1, .int p2] (n := 4) (Nat.le_of_ble_eq_true rfl)
  generalize (lg_sl [.ref (ad 5), .int p0, .int p1, .int p2] ++ List.replicate (4 - (lg_sl [.ref (ad 5), .int p0, .int p1, .int p2]).length) Slot.unset).toArray = ls at hl ⊢
  have hl : lv_has ls 4 [(0, .ref (ad 5)), (1, .int p0), (2, .int p1), (3, .int p2)] := hl
  clear hE
  unfold f_X7_openBetween at hf
  suffices hgo : ∀ (H : Heap) (locs : List Loc), va_P D vwCl (wd N ad C) H → va_S (Aw N ad s.heap.size) s.heap H locs → W p l e (headSpec wsX7_openBetween rmX7_openBetween).room s m args below meth c H locs 0 0 QQ (F0 m 0 ls []) from hgo s.heap [] hP hS
  clear hS hP
  intro H locs hP hS
  refine lv_aload_n hx hb dX7_openBetween_0 rfl (lv_at hl 0 rfl) ?_
  refine r_get (own := RX7) (T := TX7) (n := 16) (ci := 7) (v := .ref (ad 13)) hx hb hts nX7 hown hK hP (by omega) h5 rfl 7 (by decide) k0 rfl dX7_openBetween_1 ?_
  refine lv_iload_n hx hb dX7_openBetween_4 rfl (lv_at hl 1 rfl) ?_
  refine lv_iload_n hx hb dX7_openBetween_5 rfl (lv_at hl 2 rfl) ?_
  obtain ⟨i2, f1, ef1, hf⟩ := wi_e hf
  refine r_iast hx hb hK hI hAd hP hS (by omega) h13 i2 dX7_openBetween_6 ef1 (fun C H locs hP hS he hn => ?_)
  have hag : ∀ i : Nat, i ≠ 13 ∧ i ≠ 14 → C i = C0 i := fun i h => (he i (by omega)).trans (hag i h)
  have h5 := (he 5 (by decide)).trans h5
  have h14 := (he 14 (by decide)).trans h14
  have h13 : C 13 = aI g 12 f1 := hn
  refine lv_aload_n hx hb dX7_openBetween_7 rfl (lv_at hl 0 rfl) ?_
  refine r_get (own := RX7) (T := TX7) (n := 16) (ci := 7) (v := .ref (ad 14)) hx hb hts nX7 hown hK hP (by omega) h5 rfl 8 (by decide) k2 rfl dX7_openBetween_8 ?_
  refine lv_iload_n hx hb dX7_openBetween_11 rfl (lv_at hl 1 rfl) ?_
  refine lv_iload_n hx hb dX7_openBetween_12 rfl (lv_at hl 3 rfl) ?_
  obtain ⟨i4, f3, ef3, hf⟩ := wi_e hf
  refine r_iast hx hb hK hI hAd hP hS (by omega) h14 i4 dX7_openBetween_13 ef3 (fun C H locs hP hS he hn => ?_)
  have hag : ∀ i : Nat, i ≠ 13 ∧ i ≠ 14 → C i = C0 i := fun i h => (he i (by omega)).trans (hag i h)
  have h5 := (he 5 (by decide)).trans h5
  have h13 := (he 13 (by decide)).trans h13
  have h14 : C 14 = aI g 12 f3 := hn
  obtain rfl := Option.some.inj hf
  rw [← hQ]
  exact e_vW hx hb hr hP hS ⟨hag, h13, h14⟩ hlocks dX7_openBetween_14

def f_X7_letIn (p0 : Int32) (p1 : Int32) (p2 : Int32) (t_lik : Nat → Int32) (t_str : Nat → Int32) (t_from : Nat → Int32) (t_unt : Nat → Int32) : Option ((Nat → Int32) × (Nat → Int32) × (Nat → Int32) × (Nat → Int32)) :=
  wi t_lik 12 (p0) (p1) fun f1 =>
  wi t_str 12 (p0) (p2) fun f3 =>
  (f_X7_openBetween p0 0 23 t_from t_unt).bind fun q5 =>
  some (f1, f3, q5.1, q5.2)
abbrev rmX7_letIn : Room := { frames := 1, cells := 0, slots := 0, locals := 23 }
set_option maxHeartbeats 4000000 in
set_option maxRecDepth 100000 in
theorem c_X7_letIn {l : Launch} {D : va_G} {g : Nat → ClassId} {N : Nat} {ad : Nat → Nat} {C : Nat → va_E} {sz : Nat} {t_there : Int32} {t_lift : Int32} {t_none : Int32} {t_lik : Nat → Int32} {t_str : Nat → Int32} {t_from : Nat → Int32} {t_unt : Nat → Int32} {p0 : Int32} {p1 : Int32} {p2 : Int32} {rr : (Nat → Int32) × (Nat → Int32) × (Nat → Int32) × (Nat → Int32)} (hN : 86 ≤ N) (hI : Inj N ad) (h5 : C 5 = .inr (7, [.ref (ad 6), .ref (ad 7), .ref (ad 8), .ref (ad 9), .ref (ad 10), .ref (ad 11), .ref (ad 12), .ref (ad 13), .ref (ad 14), .ref (ad 15), .ref (ad 16), .ref (ad 17), .ref (ad 18), .int t_there, .int t_lift, .int t_none])) (h11 : C 11 = aI g 12 t_lik) (h12 : C 12 = aI g 12 t_str) (h13 : C 13 = aI g 12 t_from) (h14 : C 14 = aI g 12 t_unt) (hf : f_X7_letIn p0 p1 p2 t_lik t_str t_from t_unt = some rr) : Met l yX7_letIn wsX7_letIn rmX7_letIn (PcW D g N ad C sz [.ref (ad 5), .int p0, .int p1, .int p2]) (QvW D N ad sz (fun C' => (∀ i : Nat, i ≠ 11 ∧ i ≠ 12 ∧ i ≠ 13 ∧ i ≠ 14 → C' i = C i) ∧ (C' 11 = aI g 12 rr.1) ∧ (C' 12 = aI g 12 rr.2.1) ∧ (C' 13 = aI g 12 rr.2.2.1) ∧ (C' 14 = aI g 12 rr.2.2.2))) 0 0 (Aw N ad sz) := by
  refine Met.ofW (cc := cX7_letIn) (maxL := 4) (ret := none) (by decide) rfl ?_
  intro p e s m args below meth c s₁ B hml hv
  obtain ⟨hav, hsz, hK, hP⟩ := hv
  subst hsz
  have hx := B.exec
  have hb := B.bytes
  have hr := B.returns
  have hts := atoms_spec (ws := wsX7_letIn) B.pre
  have hown : s.vm.findClass RX7 = some m.cls := findClass_of_methodNamed B.named
  have hlocks := B.notSynchronized
  generalize hQ : MQ below (QvW D N ad s.heap.size (fun C' => (∀ i : Nat, i ≠ 11 ∧ i ≠ 12 ∧ i ≠ 13 ∧ i ≠ 14 → C' i = C i) ∧ (C' 11 = aI g 12 rr.1) ∧ (C' 12 = aI g 12 rr.2.1) ∧ (C' 13 = aI g 12 rr.2.2.1) ∧ (C' 14 = aI g 12 rr.2.2.2))) args s 0 0 (Aw N ad s.heap.size) = QQ
  have hS : va_S (Aw N ad s.heap.size) s.heap s.heap [] := va_S.rf
  have hA : ∀ q, s.heap.size ≤ q → (Aw N ad s.heap.size) q := fun q h => Or.inr h
  have hAd : ∀ j : Nat, j < N → (Aw N ad s.heap.size) (ad j) := fun j h => Or.inl ⟨j, h, rfl⟩
  obtain ⟨C0, hC0⟩ : ∃ C0 : Nat → va_E, C0 = C := ⟨_, rfl⟩
  have hag : ∀ i : Nat, i ≠ 11 ∧ i ≠ 12 ∧ i ≠ 13 ∧ i ≠ 14 → C i = C0 i := fun i _ => by rw [hC0]
  rw [← hC0] at hQ
  have k0 := hts (.fieldLink RX7 27 "UpDrain$Town" "likely" "[I") (List.mem_of_getElem? (i := 1) rfl)
  have nX7 : ∀ w ∈ u_ws RX7 TX7 16, w ∈ wsX7_letIn := fun _ h => List.mem_cons_of_mem _ (List.mem_append_right _ h)
  have k2 := hts (.fieldLink RX7 30 "UpDrain$Town" "strength" "[I") (List.mem_of_getElem? (i := 2) rfl)
  have hE := lg_entry_eq m [.ref (ad 5), .int p0, .int p1, .int p2] 4
  rw [← hav] at hE
  rw [hE]
  have hl := lv_entry [.ref (ad 5), .int p0, .int p1, .int p2] (n := 4) (Nat.le_of_ble_eq_true rfl)
  generalize (lg_sl [.ref (ad 5), .int p0, .int p1, .int p2] ++ List.replicate (4 - (lg_sl [.ref (ad 5), .int p0, .int p1, .int p2]).length) Slot.unset).toArray = ls at hl ⊢
  have hl : lv_has ls 4 [(0, .ref (ad 5)), (1, .int p0), (2, .int p1), (3, .int p2)] := hl
  clear hE
  unfold f_X7_letIn at hf
  suffices hgo : ∀ (H : Heap) (locs : List Loc), va_P D vwCl (wd N ad C) H → va_S (Aw N ad s.heap.size) s.heap H locs → W p l e (headSpec wsX7_letIn rmX7_letIn).room s m args below meth c H locs 0 0 QQ (F0 m 0 ls []) from hgo s.heap [] hP hS
  clear hS hP
  intro H locs hP hS
  refine lv_aload_n hx hb dX7_letIn_0 rfl (lv_at hl 0 rfl) ?_
  refine r_get (own := RX7) (T := TX7) (n := 16) (ci := 7) (v := .ref (ad 11)) hx hb hts nX7 hown hK hP (by omega) h5 rfl 5 (by decide) k0 rfl dX7_letIn_1 ?_
  refine lv_iload_n hx hb dX7_letIn_4 rfl (lv_at hl 1 rfl) ?_
  refine lv_iload_n hx hb dX7_letIn_5 rfl (lv_at hl 2 rfl) ?_
  obtain ⟨i2, f1, ef1, hf⟩ := wi_e hf
  refine r_iast hx hb hK hI hAd hP hS (by omega) h11 i2 dX7_letIn_6 ef1 (fun C H locs hP hS he hn => ?_)
  have hag : ∀ i : Nat, i ≠ 11 ∧ i ≠ 12 ∧ i ≠ 13 ∧ i ≠ 14 → C i = C0 i := fun i h => (he i (by omega)).trans (hag i h)
  have h5 := (he 5 (by decide)).trans h5
  have h12 := (he 12 (by decide)).trans h12
  have h13 := (he 13 (by decide)).trans h13
  have h14 := (he 14 (by decide)).trans h14
  have h11 : C 11 = aI g 12 f1 := hn
  refine lv_aload_n hx hb dX7_letIn_7 rfl (lv_at hl 0 rfl) ?_
  refine r_get (own := RX7) (T := TX7) (n := 16) (ci := 7) (v := .ref (ad 12)) hx hb hts nX7 hown hK hP (by omega) h5 rfl 6 (by decide) k2 rfl dX7_letIn_8 ?_
  refine lv_iload_n hx hb dX7_letIn_11 rfl (lv_at hl 1 rfl) ?_
  refine lv_iload_n hx hb dX7_letIn_12 rfl (lv_at hl 3 rfl) ?_
  obtain ⟨i4, f3, ef3, hf⟩ := wi_e hf
  refine r_iast hx hb hK hI hAd hP hS (by omega) h12 i4 dX7_letIn_13 ef3 (fun C H locs hP hS he hn => ?_)
  have hag : ∀ i : Nat, i ≠ 11 ∧ i ≠ 12 ∧ i ≠ 13 ∧ i ≠ 14 → C i = C0 i := fun i h => (he i (by omega)).trans (hag i h)
  have h5 := (he 5 (by decide)).trans h5
  have h11 := (he 11 (by decide)).trans h11
  have h13 := (he 13 (by decide)).trans h13
  have h14 := (he 14 (by decide)).trans h14
  have h12 : C 12 = aI g 12 f3 := hn
  refine lv_aload_n hx hb dX7_letIn_14 rfl (lv_at hl 0 rfl) ?_
  refine lv_iload_n hx hb dX7_letIn_15 rfl (lv_at hl 1 rfl) ?_
  refine lv_iconst (v := 0) hx hb dX7_letIn_16 (by decide) ?_
  refine lv_bipush (v := 23) hx hb dX7_letIn_17 (by decide) ?_
  obtain ⟨q5, hq5, hf⟩ := bd_e hf
  refine k_vW (va_runV (C := RX7) (As := [.int p0, .int 0, .int 23]) (rest := []) ⟨hx, hb, hml, hown, hts⟩ (c_X7_openBetween (l := l) (sz := H.size) (p0 := p0) (p1 := 0) (p2 := 23) hN hI h5 h13 h14 hq5) (cwV 3 hts gX7_letIn_X7_openBetween rfl rfl rfl (by decide +kernel) ⟨Nat.le_of_ble_eq_true rfl, Nat.le_of_ble_eq_true rfl⟩) (preV_of hK hP (by omega) h5 rfl) rfl rfl hl.1 rfl (lv_room (Nat.le_of_ble_eq_true rfl)) dX7_letIn_19 ⟨Nat.le_of_ble_eq_true rfl, Nat.le_of_ble_eq_true rfl⟩) hA hAd hS (fun C H locs hP hS hpo => ?_)
  obtain ⟨he, h13, h14⟩ := hpo
  have hag : ∀ i : Nat, i ≠ 11 ∧ i ≠ 12 ∧ i ≠ 13 ∧ i ≠ 14 → C i = C0 i := fun i h => (he i (by omega)).trans (hag i h)
  have h5 := (he 5 (by decide)).trans h5
  have h11 := (he 11 (by decide)).trans h11
  have h12 := (he 12 (by decide)).trans h12
  obtain rfl := Option.some.inj hf
  rw [← hQ]
  exact e_vW hx hb hr hP hS ⟨hag, h11, h12, h13, h14⟩ hlocks dX7_letIn_22

def f_X7_giveCup (p0 : Int32) (p1 : Int32) (p2 : Int32) (p3 : Int32) (t_tell : Nat → Int32) (t_wy : Nat → Int32) (t_wn : Nat → Int32) : Option ((Nat → Int32) × (Nat → Int32) × (Nat → Int32)) :=
  wi t_tell 4 (p0) (p1) fun f1 =>
  wi t_wy 4 (p0) (p2) fun f3 =>
  wi t_wn 4 (p0) (p3) fun f5 =>
  some (f1, f3, f5)
abbrev rmX7_giveCup : Room := { frames := 0, cells := 0, slots := 0, locals := 0 }
set_option maxHeartbeats 4000000 in
set_option maxRecDepth 100000 in
theorem c_X7_giveCup {l : Launch} {D : va_G} {g : Nat → ClassId} {N : Nat} {ad : Nat → Nat} {C : Nat → va_E} {sz : Nat} {t_there : Int32} {t_lift : Int32} {t_none : Int32} {t_tell : Nat → Int32} {t_wy : Nat → Int32} {t_wn : Nat → Int32} {p0 : Int32} {p1 : Int32} {p2 : Int32} {p3 : Int32} {rr : (Nat → Int32) × (Nat → Int32) × (Nat → Int32)} (hN : 86 ≤ N) (hI : Inj N ad) (h5 : C 5 = .inr (7, [.ref (ad 6), .ref (ad 7), .ref (ad 8), .ref (ad 9), .ref (ad 10), .ref (ad 11), .ref (ad 12), .ref (ad 13), .ref (ad 14), .ref (ad 15), .ref (ad 16), .ref (ad 17), .ref (ad 18), .int t_there, .int t_lift, .int t_none])) (h16 : C 16 = aI g 4 t_tell) (h17 : C 17 = aI g 4 t_wy) (h18 : C 18 = aI g 4 t_wn) (hf : f_X7_giveCup p0 p1 p2 p3 t_tell t_wy t_wn = some rr) : Met l yX7_giveCup wsX7_giveCup rmX7_giveCup (PcW D g N ad C sz [.ref (ad 5), .int p0, .int p1, .int p2, .int p3]) (QvW D N ad sz (fun C' => (∀ i : Nat, i ≠ 16 ∧ i ≠ 17 ∧ i ≠ 18 → C' i = C i) ∧ (C' 16 = aI g 4 rr.1) ∧ (C' 17 = aI g 4 rr.2.1) ∧ (C' 18 = aI g 4 rr.2.2))) 0 0 (Aw N ad sz) := by
  refine Met.ofW (cc := cX7_giveCup) (maxL := 5) (ret := none) (by decide) rfl ?_
  intro p e s m args below meth c s₁ B hml hv
  obtain ⟨hav, hsz, hK, hP⟩ := hv
  subst hsz
  have hx := B.exec
  have hb := B.bytes
  have hr := B.returns
  have hts := atoms_spec (ws := wsX7_giveCup) B.pre
  have hown : s.vm.findClass RX7 = some m.cls := findClass_of_methodNamed B.named
  have hlocks := B.notSynchronized
  generalize hQ : MQ below (QvW D N ad s.heap.size (fun C' => (∀ i : Nat, i ≠ 16 ∧ i ≠ 17 ∧ i ≠ 18 → C' i = C i) ∧ (C' 16 = aI g 4 rr.1) ∧ (C' 17 = aI g 4 rr.2.1) ∧ (C' 18 = aI g 4 rr.2.2))) args s 0 0 (Aw N ad s.heap.size) = QQ
  have hS : va_S (Aw N ad s.heap.size) s.heap s.heap [] := va_S.rf
  have hA : ∀ q, s.heap.size ≤ q → (Aw N ad s.heap.size) q := fun q h => Or.inr h
  have hAd : ∀ j : Nat, j < N → (Aw N ad s.heap.size) (ad j) := fun j h => Or.inl ⟨j, h, rfl⟩
  obtain ⟨C0, hC0⟩ : ∃ C0 : Nat → va_E, C0 = C := ⟨_, rfl⟩
  have hag : ∀ i : Nat, i ≠ 16 ∧ i ≠ 17 ∧ i ≠ 18 → C i = C0 i := fun i _ => by rw [hC0]
  rw [← hC0] at hQ
  have k0 := hts (.fieldLink RX7 42 "UpDrain$Town" "tells" "[I") (List.mem_of_getElem? (i := 1) rfl)
  have nX7 : ∀ w ∈ u_ws RX7 TX7 16, w ∈ wsX7_giveCup := fun _ h => List.mem_cons_of_mem _ (List.mem_append_right _ h)
  have k2 := hts (.fieldLink RX7 45 "UpDrain$Town" "wrongYes" "[I") (List.mem_of_getElem? (i := 2) rfl)
  have k3 := hts (.fieldLink RX7 48 "UpDrain$Town" "wrongNo" "[I") (List.mem_of_getElem? (i := 3) rfl)
  have hE := lg_entry_eq m [.ref (ad 5), .int p0, .int p1, .int p2, .int p3] 5
  rw [← hav] at hE
  rw [hE]
  have hl := lv_entry [.ref (ad 5), .int p0, .int p1, .int p2, .int p3] (n := 5) (Nat.le_of_ble_eq_true rfl)
  generalize (lg_sl [.ref (ad 5), .int p0, .int p1, .int p2, .int p3] ++ List.replicate (5 - (lg_sl [.ref (ad 5), .int p0, .int p1, .int p2, .int p3]).length) Slot.unset).toArray = ls at hl ⊢
  have hl : lv_has ls 5 [(0, .ref (ad 5)), (1, .int p0), (2, .int p1), (3, .int p2), (4, .int p3)] := hl
  clear hE
  unfold f_X7_giveCup at hf
  suffices hgo : ∀ (H : Heap) (locs : List Loc), va_P D vwCl (wd N ad C) H → va_S (Aw N ad s.heap.size) s.heap H locs → W p l e (headSpec wsX7_giveCup rmX7_giveCup).room s m args below meth c H locs 0 0 QQ (F0 m 0 ls []) from hgo s.heap [] hP hS
  clear hS hP
  intro H locs hP hS
  refine lv_aload_n hx hb dX7_giveCup_0 rfl (lv_at hl 0 rfl) ?_
  refine r_get (own := RX7) (T := TX7) (n := 16) (ci := 7) (v := .ref (ad 16)) hx hb hts nX7 hown hK hP (by omega) h5 rfl 10 (by decide) k0 rfl dX7_giveCup_1 ?_
  refine lv_iload_n hx hb dX7_giveCup_4 rfl (lv_at hl 1 rfl) ?_
  refine lv_iload_n hx hb dX7_giveCup_5 rfl (lv_at hl 2 rfl) ?_
  obtain ⟨i2, f1, ef1, hf⟩ := wi_e hf
  refine r_iast hx hb hK hI hAd hP hS (by omega) h16 i2 dX7_giveCup_6 ef1 (fun C H locs hP hS he hn => ?_)
  have hag : ∀ i : Nat, i ≠ 16 ∧ i ≠ 17 ∧ i ≠ 18 → C i = C0 i := fun i h => (he i (by omega)).trans (hag i h)
  have h5 := (he 5 (by decide)).trans h5
  have h17 := (he 17 (by decide)).trans h17
  have h18 := (he 18 (by decide)).trans h18
  have h16 : C 16 = aI g 4 f1 := hn
  refine lv_aload_n hx hb dX7_giveCup_7 rfl (lv_at hl 0 rfl) ?_
  refine r_get (own := RX7) (T := TX7) (n := 16) (ci := 7) (v := .ref (ad 17)) hx hb hts nX7 hown hK hP (by omega) h5 rfl 11 (by decide) k2 rfl dX7_giveCup_8 ?_
  refine lv_iload_n hx hb dX7_giveCup_11 rfl (lv_at hl 1 rfl) ?_
  refine lv_iload_n hx hb dX7_giveCup_12 rfl (lv_at hl 3 rfl) ?_
  obtain ⟨i4, f3, ef3, hf⟩ := wi_e hf
  refine r_iast hx hb hK hI hAd hP hS (by omega) h17 i4 dX7_giveCup_13 ef3 (fun C H locs hP hS he hn => ?_)
  have hag : ∀ i : Nat, i ≠ 16 ∧ i ≠ 17 ∧ i ≠ 18 → C i = C0 i := fun i h => (he i (by omega)).trans (hag i h)
  have h5 := (he 5 (by decide)).trans h5
  have h16 := (he 16 (by decide)).trans h16
  have h18 := (he 18 (by decide)).trans h18
  have h17 : C 17 = aI g 4 f3 := hn
  refine lv_aload_n hx hb dX7_giveCup_14 rfl (lv_at hl 0 rfl) ?_
  refine r_get (own := RX7) (T := TX7) (n := 16) (ci := 7) (v := .ref (ad 18)) hx hb hts nX7 hown hK hP (by omega) h5 rfl 12 (by decide) k3 rfl dX7_giveCup_15 ?_
  refine lv_iload_n hx hb dX7_giveCup_18 rfl (lv_at hl 1 rfl) ?_
  refine lv_iload hx hb dX7_giveCup_19 (lv_at hl 4 rfl) ?_
  obtain ⟨i6, f5, ef5, hf⟩ := wi_e hf
  refine r_iast hx hb hK hI hAd hP hS (by omega) h18 i6 dX7_giveCup_21 ef5 (fun C H locs hP hS he hn => ?_)
  have hag : ∀ i : Nat, i ≠ 16 ∧ i ≠ 17 ∧ i ≠ 18 → C i = C0 i := fun i h => (he i (by omega)).trans (hag i h)
  have h5 := (he 5 (by decide)).trans h5
  have h16 := (he 16 (by decide)).trans h16
  have h17 := (he 17 (by decide)).trans h17
  have h18 : C 18 = aI g 4 f5 := hn
  obtain rfl := Option.some.inj hf
  rw [← hQ]
  exact e_vW hx hb hr hP hS ⟨hag, h16, h17, h18⟩ hlocks dX7_giveCup_22

def f_X7_tell (p0 : Int32) (p2 : Int32) (tx_n : Nat → Int32) (t_down : Nat → Int32) (t_min : Nat → Int32) (t_pac : Nat → Int32) (t_gone : Nat → Int32) (t_infl : Nat → Int32) (t_lik : Nat → Int32) (t_str : Nat → Int32) (t_from : Nat → Int32) (t_unt : Nat → Int32) (t_rain : Nat → Int32) (t_tell : Nat → Int32) (t_wy : Nat → Int32) (t_wn : Nat → Int32) (t_there : Int32) (t_lift : Int32) (t_none : Int32) : Option ((Nat → Int32) × (Nat → Int32) × (Nat → Int32) × (Nat → Int32) × (Nat → Int32) × (Nat → Int32) × (Nat → Int32) × (Nat → Int32) × (Nat → Int32) × (Nat → Int32) × (Nat → Int32) × (Nat → Int32) × (Nat → Int32) × Int32 × Int32 × Int32) :=
  if p2 < 0 then
    some (t_down, t_min, t_pac, t_gone, t_infl, t_lik, t_str, t_from, t_unt, t_rain, t_tell, t_wy, t_wn, t_there, t_lift, t_none)
  else
    if (p2 + 5) ≤ (nI 45) then
      ri tx_n 45 (p2) fun x3 =>
      ri tx_n 45 ((p2 + 1)) fun x5 =>
      ri tx_n 45 ((p2 + 2)) fun x7 =>
      ri tx_n 45 ((p2 + 3)) fun x9 =>
      if p0 = 0 then
        ri tx_n 45 ((p2 + 4)) fun x12 =>
        (f_X7_layFrom x3 x5 x7 x9 x12 t_down t_min t_pac t_gone t_there).bind fun q14 =>
        some (q14.1, q14.2.1, q14.2.2.1, q14.2.2.2.1, t_infl, t_lik, t_str, t_from, t_unt, t_rain, t_tell, t_wy, t_wn, q14.2.2.2.2, t_lift, t_none)
      else if p0 = 1 then
        wi t_infl 12 (x3) (x5) fun f16 =>
        some (t_down, t_min, t_pac, t_gone, f16, t_lik, t_str, t_from, t_unt, t_rain, t_tell, t_wy, t_wn, t_there, t_lift, t_none)
      else if p0 = 2 then
        (f_X7_letIn x3 x5 x7 t_lik t_str t_from t_unt).bind fun q19 =>
        some (t_down, t_min, t_pac, t_gone, t_infl, q19.1, q19.2.1, q19.2.2.1, q19.2.2.2, t_rain, t_tell, t_wy, t_wn, t_there, t_lift, t_none)
      else if p0 = 3 then
        (f_X7_openBetween x3 x5 x7 t_from t_unt).bind fun q21 =>
        some (t_down, t_min, t_pac, t_gone, t_infl, t_lik, t_str, q21.1, q21.2, t_rain, t_tell, t_wy, t_wn, t_there, t_lift, t_none)
      else if p0 = 4 then
        wi t_rain 24 (x3) (x5) fun f23 =>
        some (t_down, t_min, t_pac, t_gone, t_infl, t_lik, t_str, t_from, t_unt, f23, t_tell, t_wy, t_wn, t_there, t_lift, t_none)
      else if p0 = 5 then
        (f_X7_giveCup x3 x5 x7 x9 t_tell t_wy t_wn).bind fun q26 =>
        some (t_down, t_min, t_pac, t_gone, t_infl, t_lik, t_str, t_from, t_unt, t_rain, q26.1, q26.2.1, q26.2.2, t_there, t_lift, t_none)
      else if p0 = 6 then
        some (t_down, t_min, t_pac, t_gone, t_infl, t_lik, t_str, t_from, t_unt, t_rain, t_tell, t_wy, t_wn, t_there, x3, t_none)
      else 
        some (t_down, t_min, t_pac, t_gone, t_infl, t_lik, t_str, t_from, t_unt, t_rain, t_tell, t_wy, t_wn, t_there, t_lift, x3)
    else
      some (t_down, t_min, t_pac, t_gone, t_infl, t_lik, t_str, t_from, t_unt, t_rain, t_tell, t_wy, t_wn, t_there, t_lift, t_none)
abbrev rmX7_tell : Room := { frames := 2, cells := 0, slots := 0, locals := 50 }
set_option maxHeartbeats 4000000 in
set_option maxRecDepth 100000 in
theorem c_X7_tell {l : Launch} {D : va_G} {g : Nat → ClassId} {N : Nat} {ad : Nat → Nat} {C : Nat → va_E} {sz : Nat} {tx_n : Nat → Int32} {t_there : Int32} {t_lift : Int32} {t_none : Int32} {t_down : Nat → Int32} {t_min : Nat → Int32} {t_pac : Nat → Int32} {t_gone : Nat → Int32} {t_infl : Nat → Int32} {t_lik : Nat → Int32} {t_str : Nat → Int32} {t_from : Nat → Int32} {t_unt : Nat → Int32} {t_rain : Nat → Int32} {t_tell : Nat → Int32} {t_wy : Nat → Int32} {t_wn : Nat → Int32} {p0 : Int32} {p2 : Int32} {rr : (Nat → Int32) × (Nat → Int32) × (Nat → Int32) × (Nat → Int32) × (Nat → Int32) × (Nat → Int32) × (Nat → Int32) × (Nat → Int32) × (Nat → Int32) × (Nat → Int32) × (Nat → Int32) × (Nat → Int32) × (Nat → Int32) × Int32 × Int32 × Int32} (hN : 86 ≤ N) (hI : Inj N ad) (h4 : C 4 = aI g 45 tx_n) (h5 : C 5 = .inr (7, [.ref (ad 6), .ref (ad 7), .ref (ad 8), .ref (ad 9), .ref (ad 10), .ref (ad 11), .ref (ad 12), .ref (ad 13), .ref (ad 14), .ref (ad 15), .ref (ad 16), .ref (ad 17), .ref (ad 18), .int t_there, .int t_lift, .int t_none])) (h6 : C 6 = aI g 12 t_down) (h7 : C 7 = aI g 12 t_min) (h8 : C 8 = aI g 12 t_pac) (h9 : C 9 = aI g 12 t_gone) (h10 : C 10 = aI g 12 t_infl) (h11 : C 11 = aI g 12 t_lik) (h12 : C 12 = aI g 12 t_str) (h13 : C 13 = aI g 12 t_from) (h14 : C 14 = aI g 12 t_unt) (h15 : C 15 = aI g 24 t_rain) (h16 : C 16 = aI g 4 t_tell) (h17 : C 17 = aI g 4 t_wy) (h18 : C 18 = aI g 4 t_wn) (hf : f_X7_tell p0 p2 tx_n t_down t_min t_pac t_gone t_infl t_lik t_str t_from t_unt t_rain t_tell t_wy t_wn t_there t_lift t_none = some rr) : Met l yX7_tell wsX7_tell rmX7_tell (PcW D g N ad C sz [.ref (ad 5), .int p0, .ref (ad 4), .int p2]) (QvW D N ad sz (fun C' => (∀ i : Nat, i ≠ 10 ∧ i ≠ 11 ∧ i ≠ 12 ∧ i ≠ 13 ∧ i ≠ 14 ∧ i ≠ 15 ∧ i ≠ 16 ∧ i ≠ 17 ∧ i ≠ 18 ∧ i ≠ 5 ∧ i ≠ 6 ∧ i ≠ 7 ∧ i ≠ 8 ∧ i ≠ 9 → C' i = C i) ∧ (C' 10 = aI g 12 rr.2.2.2.2.1) ∧ (C' 11 = aI g 12 rr.2.2.2.2.2.1) ∧ (C' 12 = aI g 12 rr.2.2.2.2.2.2.1) ∧ (C' 13 = aI g 12 rr.2.2.2.2.2.2.2.1) ∧ (C' 14 = aI g 12 rr.2.2.2.2.2.2.2.2.1) ∧ (C' 15 = aI g 24 rr.2.2.2.2.2.2.2.2.2.1) ∧ (C' 16 = aI g 4 rr.2.2.2.2.2.2.2.2.2.2.1) ∧ (C' 17 = aI g 4 rr.2.2.2.2.2.2.2.2.2.2.2.1) ∧ (C' 18 = aI g 4 rr.2.2.2.2.2.2.2.2.2.2.2.2.1) ∧ (C' 5 = .inr (7, [.ref (ad 6), .ref (ad 7), .ref (ad 8), .ref (ad 9), .ref (ad 10), .ref (ad 11), .ref (ad 12), .ref (ad 13), .ref (ad 14), .ref (ad 15), .ref (ad 16), .ref (ad 17), .ref (ad 18), .int rr.2.2.2.2.2.2.2.2.2.2.2.2.2.1, .int rr.2.2.2.2.2.2.2.2.2.2.2.2.2.2.1, .int rr.2.2.2.2.2.2.2.2.2.2.2.2.2.2.2])) ∧ (C' 6 = aI g 12 rr.1) ∧ (C' 7 = aI g 12 rr.2.1) ∧ (C' 8 = aI g 12 rr.2.2.1) ∧ (C' 9 = aI g 12 rr.2.2.2.1))) 0 0 (Aw N ad sz) := by
  refine Met.ofW (cc := cX7_tell) (maxL := 8) (ret := none) (by decide) rfl ?_
  intro p e s m args below meth c s₁ B hml hv
  obtain ⟨hav, hsz, hK, hP⟩ := hv
  subst hsz
  have hx := B.exec
  have hb := B.bytes
  have hr := B.returns
  have hts := atoms_spec (ws := wsX7_tell) B.pre
  have hown : s.vm.findClass RX7 = some m.cls := findClass_of_methodNamed B.named
  have hlocks := B.notSynchronized
  generalize hQ : MQ below (QvW D N ad s.heap.size (fun C' => (∀ i : Nat, i ≠ 10 ∧ i ≠ 11 ∧ i ≠ 12 ∧ i ≠ 13 ∧ i ≠ 14 ∧ i ≠ 15 ∧ i ≠ 16 ∧ i ≠ 17 ∧ i ≠ 18 ∧ i ≠ 5 ∧ i ≠ 6 ∧ i ≠ 7 ∧ i ≠ 8 ∧ i ≠ 9 → C' i = C i) ∧ (C' 10 = aI g 12 rr.2.2.2.2.1) ∧ (C' 11 = aI g 12 rr.2.2.2.2.2.1) ∧ (C' 12 = aI g 12 rr.2.2.2.2.2.2.1) ∧ (C' 13 = aI g 12 rr.2.2.2.2.2.2.2.1) ∧ (C' 14 = aI g 12 rr.2.2.2.2.2.2.2.2.1) ∧ (C' 15 = aI g 24 rr.2.2.2.2.2.2.2.2.2.1) ∧ (C' 16 = aI g 4 rr.2.2.2.2.2.2.2.2.2.2.1) ∧ (C' 17 = aI g 4 rr.2.2.2.2.2.2.2.2.2.2.2.1) ∧ (C' 18 = aI g 4 rr.2.2.2.2.2.2.2.2.2.2.2.2.1) ∧ (C' 5 = .inr (7, [.ref (ad 6), .ref (ad 7), .ref (ad 8), .ref (ad 9), .ref (ad 10), .ref (ad 11), .ref (ad 12), .ref (ad 13), .ref (ad 14), .ref (ad 15), .ref (ad 16), .ref (ad 17), .ref (ad 18), .int rr.2.2.2.2.2.2.2.2.2.2.2.2.2.1, .int rr.2.2.2.2.2.2.2.2.2.2.2.2.2.2.1, .int rr.2.2.2.2.2.2.2.2.2.2.2.2.2.2.2])) ∧ (C' 6 = aI g 12 rr.1) ∧ (C' 7 = aI g 12 rr.2.1) ∧ (C' 8 = aI g 12 rr.2.2.1) ∧ (C' 9 = aI g 12 rr.2.2.2.1))) args s 0 0 (Aw N ad s.heap.size) = QQ
  have hS : va_S (Aw N ad s.heap.size) s.heap s.heap [] := va_S.rf
  have hA : ∀ q, s.heap.size ≤ q → (Aw N ad s.heap.size) q := fun q h => Or.inr h
  have hAd : ∀ j : Nat, j < N → (Aw N ad s.heap.size) (ad j) := fun j h => Or.inl ⟨j, h, rfl⟩
  obtain ⟨C0, hC0⟩ : ∃ C0 : Nat → va_E, C0 = C := ⟨_, rfl⟩
  have hag : ∀ i : Nat, i ≠ 10 ∧ i ≠ 11 ∧ i ≠ 12 ∧ i ≠ 13 ∧ i ≠ 14 ∧ i ≠ 15 ∧ i ≠ 16 ∧ i ≠ 17 ∧ i ≠ 18 ∧ i ≠ 5 ∧ i ≠ 6 ∧ i ≠ 7 ∧ i ≠ 8 ∧ i ≠ 9 → C i = C0 i := fun i _ => by rw [hC0]
  rw [← hC0] at hQ
  have k0 := hts (.fieldLink RX7 24 "UpDrain$Town" "inflow" "[I") (List.mem_of_getElem? (i := 1) rfl)
  have nX7 : ∀ w ∈ u_ws RX7 TX7 16, w ∈ wsX7_tell := fun _ h => List.mem_cons_of_mem _ (List.mem_append_right _ h)
  have k2 := hts (.fieldLink RX7 39 "UpDrain$Town" "rain" "[I") (List.mem_of_getElem? (i := 2) rfl)
  have k3 := hts (.fieldLink RX7 72 "UpDrain$Town" "lift" "I") (List.mem_of_getElem? (i := 3) rfl)
  have k4 := hts (.fieldLink RX7 75 "UpDrain$Town" "none" "I") (List.mem_of_getElem? (i := 4) rfl)
  have hE := lg_entry_eq m [.ref (ad 5), .int p0, .ref (ad 4), .int p2] 8
  rw [← hav] at hE
  rw [hE]
  have hl := lv_entry [.ref (ad 5), .int p0, .ref (ad 4), .int p2] (n := 8) (Nat.le_of_ble_eq_true rfl)
  generalize (lg_sl [.ref (ad 5), .int p0, .ref (ad 4), .int p2] ++ List.replicate (8 - (lg_sl [.ref (ad 5), .int p0, .ref (ad 4), .int p2]).length) Slot.unset).toArray = ls at hl ⊢
  have hl : lv_has ls 8 [(0, .ref (ad 5)), (1, .int p0), (2, .ref (ad 4)), (3, .int p2)] := hl
  clear hE
  unfold f_X7_tell at hf
  suffices hgo : ∀ (H : Heap) (locs : List Loc), va_P D vwCl (wd N ad C) H → va_S (Aw N ad s.heap.size) s.heap H locs → W p l e (headSpec wsX7_tell rmX7_tell).room s m args below meth c H locs 0 0 QQ (F0 m 0 ls []) from hgo s.heap [] hP hS
  clear hS hP
  intro H locs hP hS
  refine lv_iload_n hx hb dX7_tell_0 rfl (lv_at hl 3 rfl) ?_
  refine lv_if_lt (tgt := 12) hx hb dX7_tell_1 (by decide) (fun c1 => ?_) (fun c1 => ?_)
  · have hf := it_e c1 hf
    obtain rfl := Option.some.inj hf
    rw [← hQ]
    exact e_vW hx hb hr hP hS ⟨hag, h10, h11, h12, h13, h14, h15, h16, h17, h18, h5, h6, h7, h8, h9⟩ hlocks dX7_tell_12
  · have hf := ie_e c1 hf
    refine lv_iload_n hx hb dX7_tell_4 rfl (lv_at hl 3 rfl) ?_
    refine lv_iconst (v := 5) hx hb dX7_tell_5 (by decide) ?_
    refine lv_iadd hx hb dX7_tell_6 ?_
    refine lv_aload_n hx hb dX7_tell_7 rfl (lv_at hl 2 rfl) ?_
    refine r_alen hx hb hK hP (by omega) h4 dX7_tell_8 ?_
    refine lv_icmp_le (tgt := 13) hx hb dX7_tell_9 (by decide) (fun c2 => ?_) (fun c2 => ?_)
    · have hf := it_e c2 hf
      refine lv_aload_n hx hb dX7_tell_13 rfl (lv_at hl 2 rfl) ?_
      refine lv_iload_n hx hb dX7_tell_14 rfl (lv_at hl 3 rfl) ?_
      obtain ⟨i4, x3, ex3, hf⟩ := ri_e hf
      refine r_iald hx hb hK hP (by omega) h4 i4 dX7_tell_15 ex3 ?_
      refine lv_istore (lv' := [(4, .int x3), (0, .ref (ad 5)), (1, .int p0), (2, .ref (ad 4)), (3, .int p2)]) hx hb dX7_tell_16 hl (by decide) rfl (fun ls hl => ?_)
      refine lv_aload_n hx hb dX7_tell_18 rfl (lv_at hl 3 rfl) ?_
      refine lv_iload_n hx hb dX7_tell_19 rfl (lv_at hl 4 rfl) ?_
      refine lv_iconst (v := 1) hx hb dX7_tell_20 (by decide) ?_
      refine lv_iadd hx hb dX7_tell_21 ?_
      obtain ⟨i6, x5, ex5, hf⟩ := ri_e hf
      refine r_iald hx hb hK hP (by omega) h4 i6 dX7_tell_22 ex5 ?_
      refine lv_istore (lv' := [(5, .int x5), (4, .int x3), (0, .ref (ad 5)), (1, .int p0), (2, .ref (ad 4)), (3, .int p2)]) hx hb dX7_tell_23 hl (by decide) rfl (fun ls hl => ?_)
      refine lv_aload_n hx hb dX7_tell_25 rfl (lv_at hl 4 rfl) ?_
      refine lv_iload_n hx hb dX7_tell_26 rfl (lv_at hl 5 rfl) ?_
      refine lv_iconst (v := 2) hx hb dX7_tell_27 (by decide) ?_
      refine lv_iadd hx hb dX7_tell_28 ?_
      obtain ⟨i8, x7, ex7, hf⟩ := ri_e hf
      refine r_iald hx hb hK hP (by omega) h4 i8 dX7_tell_29 ex7 ?_
      refine lv_istore (lv' := [(6, .int x7), (5, .int x5), (4, .int x3), (0, .ref (ad 5)), (1, .int p0), (2, .ref (ad 4)), (3, .int p2)]) hx hb dX7_tell_30 hl (by decide) rfl (fun ls hl => ?_)
      refine lv_aload_n hx hb dX7_tell_32 rfl (lv_at hl 5 rfl) ?_
      refine lv_iload_n hx hb dX7_tell_33 rfl (lv_at hl 6 rfl) ?_
      refine lv_iconst (v := 3) hx hb dX7_tell_34 (by decide) ?_
      refine lv_iadd hx hb dX7_tell_35 ?_
      obtain ⟨i10, x9, ex9, hf⟩ := ri_e hf
      refine r_iald hx hb hK hP (by omega) h4 i10 dX7_tell_36 ex9 ?_
      refine lv_istore (lv' := [(7, .int x9), (6, .int x7), (5, .int x5), (4, .int x3), (0, .ref (ad 5)), (1, .int p0), (2, .ref (ad 4)), (3, .int p2)]) hx hb dX7_tell_37 hl (by decide) rfl (fun ls hl => ?_)
      refine lv_iload_n hx hb dX7_tell_39 rfl (lv_at hl 5 rfl) ?_
      by_cases c11 : p0 = 0
      · have hf := it_e c11 hf
        refine lv_tableIn (tgt := 84) hx hb dX7_tell_40 (by rw [c11]; decide) (by rw [c11]; decide) (by rw [c11]; rfl) (by decide) ?_
        refine lv_aload_n hx hb dX7_tell_84 rfl (lv_at hl 4 rfl) ?_
        refine lv_iload hx hb dX7_tell_85 (lv_at hl 3 rfl) ?_
        refine lv_iload hx hb dX7_tell_87 (lv_at hl 2 rfl) ?_
        refine lv_iload hx hb dX7_tell_89 (lv_at hl 1 rfl) ?_
        refine lv_iload hx hb dX7_tell_91 (lv_at hl 0 rfl) ?_
        refine lv_aload_n hx hb dX7_tell_93 rfl (lv_at hl 6 rfl) ?_
        refine lv_iload_n hx hb dX7_tell_94 rfl (lv_at hl 7 rfl) ?_
        refine lv_iconst (v := 4) hx hb dX7_tell_95 (by decide) ?_
        refine lv_iadd hx hb dX7_tell_96 ?_
        obtain ⟨i13, x12, ex12, hf⟩ := ri_e hf
        refine r_iald hx hb hK hP (by omega) h4 i13 dX7_tell_97 ex12 ?_
        obtain ⟨q14, hq14, hf⟩ := bd_e hf
        refine k_vW (va_runV (C := RX7) (As := [.int x3, .int x5, .int x7, .int x9, .int x12]) (rest := []) ⟨hx, hb, hml, hown, hts⟩ (c_X7_layFrom (l := l) (sz := H.size) (p0 := x3) (p1 := x5) (p2 := x7) (p3 := x9) (p4 := x12) hN hI h5 h6 h7 h8 h9 hq14) (cwV 5 hts gX7_tell_X7_layFrom rfl rfl rfl (by decide +kernel) ⟨Nat.le_of_ble_eq_true rfl, Nat.le_of_ble_eq_true rfl⟩) (preV_of hK hP (by omega) h5 rfl) rfl rfl hl.1 rfl (lv_room (Nat.le_of_ble_eq_true rfl)) dX7_tell_98 ⟨Nat.le_of_ble_eq_true rfl, Nat.le_of_ble_eq_true rfl⟩) hA hAd hS (fun C H locs hP hS hpo => ?_)
        obtain ⟨he, h5, h6, h7, h8, h9⟩ := hpo
        have hag : ∀ i : Nat, i ≠ 10 ∧ i ≠ 11 ∧ i ≠ 12 ∧ i ≠ 13 ∧ i ≠ 14 ∧ i ≠ 15 ∧ i ≠ 16 ∧ i ≠ 17 ∧ i ≠ 18 ∧ i ≠ 5 ∧ i ≠ 6 ∧ i ≠ 7 ∧ i ≠ 8 ∧ i ≠ 9 → C i = C0 i := fun i h => (he i (by omega)).trans (hag i h)
        have h4 := (he 4 (by decide)).trans h4
        have h10 := (he 10 (by decide)).trans h10
        have h11 := (he 11 (by decide)).trans h11
        have h12 := (he 12 (by decide)).trans h12
        have h13 := (he 13 (by decide)).trans h13
        have h14 := (he 14 (by decide)).trans h14
        have h15 := (he 15 (by decide)).trans h15
        have h16 := (he 16 (by decide)).trans h16
        have h17 := (he 17 (by decide)).trans h17
        have h18 := (he 18 (by decide)).trans h18
        refine lv_goto (tgt := 184) hx hb dX7_tell_101 (by decide) ?_
        obtain rfl := Option.some.inj hf
        rw [← hQ]
        exact e_vW hx hb hr hP hS ⟨hag, h10, h11, h12, h13, h14, h15, h16, h17, h18, h5, h6, h7, h8, h9⟩ hlocks dX7_tell_184
      have hf := ie_e c11 hf
      by_cases c15 : p0 = 1
      · have hf := it_e c15 hf
        refine lv_tableIn (tgt := 104) hx hb dX7_tell_40 (by rw [c15]; decide) (by rw [c15]; decide) (by rw [c15]; rfl) (by decide) ?_
        refine lv_aload_n hx hb dX7_tell_104 rfl (lv_at hl 4 rfl) ?_
        refine r_get (own := RX7) (T := TX7) (n := 16) (ci := 7) (v := .ref (ad 10)) hx hb hts nX7 hown hK hP (by omega) h5 rfl 4 (by decide) k0 rfl dX7_tell_105 ?_
        refine lv_iload hx hb dX7_tell_108 (lv_at hl 3 rfl) ?_
        refine lv_iload hx hb dX7_tell_110 (lv_at hl 2 rfl) ?_
        obtain ⟨i17, f16, ef16, hf⟩ := wi_e hf
        refine r_iast hx hb hK hI hAd hP hS (by omega) h10 i17 dX7_tell_112 ef16 (fun C H locs hP hS he hn => ?_)
        have hag : ∀ i : Nat, i ≠ 10 ∧ i ≠ 11 ∧ i ≠ 12 ∧ i ≠ 13 ∧ i ≠ 14 ∧ i ≠ 15 ∧ i ≠ 16 ∧ i ≠ 17 ∧ i ≠ 18 ∧ i ≠ 5 ∧ i ≠ 6 ∧ i ≠ 7 ∧ i ≠ 8 ∧ i ≠ 9 → C i = C0 i := fun i h => (he i (by omega)).trans (hag i h)
        have h4 := (he 4 (by decide)).trans h4
        have h5 := (he 5 (by decide)).trans h5
        have h6 := (he 6 (by decide)).trans h6
        have h7 := (he 7 (by decide)).trans h7
        have h8 := (he 8 (by decide)).trans h8
        have h9 := (he 9 (by decide)).trans h9
        have h11 := (he 11 (by decide)).trans h11
        have h12 := (he 12 (by decide)).trans h12
        have h13 := (he 13 (by decide)).trans h13
        have h14 := (he 14 (by decide)).trans h14
        have h15 := (he 15 (by decide)).trans h15
        have h16 := (he 16 (by decide)).trans h16
        have h17 := (he 17 (by decide)).trans h17
        have h18 := (he 18 (by decide)).trans h18
        have h10 : C 10 = aI g 12 f16 := hn
        refine lv_goto (tgt := 184) hx hb dX7_tell_113 (by decide) ?_
        obtain rfl := Option.some.inj hf
        rw [← hQ]
        exact e_vW hx hb hr hP hS ⟨hag, h10, h11, h12, h13, h14, h15, h16, h17, h18, h5, h6, h7, h8, h9⟩ hlocks dX7_tell_184
      have hf := ie_e c15 hf
      by_cases c18 : p0 = 2
      · have hf := it_e c18 hf
        refine lv_tableIn (tgt := 116) hx hb dX7_tell_40 (by rw [c18]; decide) (by rw [c18]; decide) (by rw [c18]; rfl) (by decide) ?_
        refine lv_aload_n hx hb dX7_tell_116 rfl (lv_at hl 4 rfl) ?_
        refine lv_iload hx hb dX7_tell_117 (lv_at hl 3 rfl) ?_
        refine lv_iload hx hb dX7_tell_119 (lv_at hl 2 rfl) ?_
        refine lv_iload hx hb dX7_tell_121 (lv_at hl 1 rfl) ?_
        obtain ⟨q19, hq19, hf⟩ := bd_e hf
        refine k_vW (va_runV (C := RX7) (As := [.int x3, .int x5, .int x7]) (rest := []) ⟨hx, hb, hml, hown, hts⟩ (c_X7_letIn (l := l) (sz := H.size) (p0 := x3) (p1 := x5) (p2 := x7) hN hI h5 h11 h12 h13 h14 hq19) (cwV 3 hts gX7_tell_X7_letIn rfl rfl rfl (by decide +kernel) ⟨Nat.le_of_ble_eq_true rfl, Nat.le_of_ble_eq_true rfl⟩) (preV_of hK hP (by omega) h5 rfl) rfl rfl hl.1 rfl (lv_room (Nat.le_of_ble_eq_true rfl)) dX7_tell_123 ⟨Nat.le_of_ble_eq_true rfl, Nat.le_of_ble_eq_true rfl⟩) hA hAd hS (fun C H locs hP hS hpo => ?_)
        obtain ⟨he, h11, h12, h13, h14⟩ := hpo
        have hag : ∀ i : Nat, i ≠ 10 ∧ i ≠ 11 ∧ i ≠ 12 ∧ i ≠ 13 ∧ i ≠ 14 ∧ i ≠ 15 ∧ i ≠ 16 ∧ i ≠ 17 ∧ i ≠ 18 ∧ i ≠ 5 ∧ i ≠ 6 ∧ i ≠ 7 ∧ i ≠ 8 ∧ i ≠ 9 → C i = C0 i := fun i h => (he i (by omega)).trans (hag i h)
        have h4 := (he 4 (by decide)).trans h4
        have h5 := (he 5 (by decide)).trans h5
        have h6 := (he 6 (by decide)).trans h6
        have h7 := (he 7 (by decide)).trans h7
        have h8 := (he 8 (by decide)).trans h8
        have h9 := (he 9 (by decide)).trans h9
        have h10 := (he 10 (by decide)).trans h10
        have h15 := (he 15 (by decide)).trans h15
        have h16 := (he 16 (by decide)).trans h16
        have h17 := (he 17 (by decide)).trans h17
        have h18 := (he 18 (by decide)).trans h18
        refine lv_goto (tgt := 184) hx hb dX7_tell_126 (by decide) ?_
        obtain rfl := Option.some.inj hf
        rw [← hQ]
        exact e_vW hx hb hr hP hS ⟨hag, h10, h11, h12, h13, h14, h15, h16, h17, h18, h5, h6, h7, h8, h9⟩ hlocks dX7_tell_184
      have hf := ie_e c18 hf
      by_cases c20 : p0 = 3
      · have hf := it_e c20 hf
        refine lv_tableIn (tgt := 129) hx hb dX7_tell_40 (by rw [c20]; decide) (by rw [c20]; decide) (by rw [c20]; rfl) (by decide) ?_
        refine lv_aload_n hx hb dX7_tell_129 rfl (lv_at hl 4 rfl) ?_
        refine lv_iload hx hb dX7_tell_130 (lv_at hl 3 rfl) ?_
        refine lv_iload hx hb dX7_tell_132 (lv_at hl 2 rfl) ?_
        refine lv_iload hx hb dX7_tell_134 (lv_at hl 1 rfl) ?_
        obtain ⟨q21, hq21, hf⟩ := bd_e hf
        refine k_vW (va_runV (C := RX7) (As := [.int x3, .int x5, .int x7]) (rest := []) ⟨hx, hb, hml, hown, hts⟩ (c_X7_openBetween (l := l) (sz := H.size) (p0 := x3) (p1 := x5) (p2 := x7) hN hI h5 h13 h14 hq21) (cwV 3 hts gX7_tell_X7_openBetween rfl rfl rfl (by decide +kernel) ⟨Nat.le_of_ble_eq_true rfl, Nat.le_of_ble_eq_true rfl⟩) (preV_of hK hP (by omega) h5 rfl) rfl rfl hl.1 rfl (lv_room (Nat.le_of_ble_eq_true rfl)) dX7_tell_136 ⟨Nat.le_of_ble_eq_true rfl, Nat.le_of_ble_eq_true rfl⟩) hA hAd hS (fun C H locs hP hS hpo => ?_)
        obtain ⟨he, h13, h14⟩ := hpo
        have hag : ∀ i : Nat, i ≠ 10 ∧ i ≠ 11 ∧ i ≠ 12 ∧ i ≠ 13 ∧ i ≠ 14 ∧ i ≠ 15 ∧ i ≠ 16 ∧ i ≠ 17 ∧ i ≠ 18 ∧ i ≠ 5 ∧ i ≠ 6 ∧ i ≠ 7 ∧ i ≠ 8 ∧ i ≠ 9 → C i = C0 i := fun i h => (he i (by omega)).trans (hag i h)
        have h4 := (he 4 (by decide)).trans h4
        have h5 := (he 5 (by decide)).trans h5
        have h6 := (he 6 (by decide)).trans h6
        have h7 := (he 7 (by decide)).trans h7
        have h8 := (he 8 (by decide)).trans h8
        have h9 := (he 9 (by decide)).trans h9
        have h10 := (he 10 (by decide)).trans h10
        have h11 := (he 11 (by decide)).trans h11
        have h12 := (he 12 (by decide)).trans h12
        have h15 := (he 15 (by decide)).trans h15
        have h16 := (he 16 (by decide)).trans h16
        have h17 := (he 17 (by decide)).trans h17
        have h18 := (he 18 (by decide)).trans h18
        refine lv_goto (tgt := 184) hx hb dX7_tell_139 (by decide) ?_
        obtain rfl := Option.some.inj hf
        rw [← hQ]
        exact e_vW hx hb hr hP hS ⟨hag, h10, h11, h12, h13, h14, h15, h16, h17, h18, h5, h6, h7, h8, h9⟩ hlocks dX7_tell_184
      have hf := ie_e c20 hf
      by_cases c22 : p0 = 4
      · have hf := it_e c22 hf
        refine lv_tableIn (tgt := 142) hx hb dX7_tell_40 (by rw [c22]; decide) (by rw [c22]; decide) (by rw [c22]; rfl) (by decide) ?_
        refine lv_aload_n hx hb dX7_tell_142 rfl (lv_at hl 4 rfl) ?_
        refine r_get (own := RX7) (T := TX7) (n := 16) (ci := 7) (v := .ref (ad 15)) hx hb hts nX7 hown hK hP (by omega) h5 rfl 9 (by decide) k2 rfl dX7_tell_143 ?_
        refine lv_iload hx hb dX7_tell_146 (lv_at hl 3 rfl) ?_
        refine lv_iload hx hb dX7_tell_148 (lv_at hl 2 rfl) ?_
        obtain ⟨i24, f23, ef23, hf⟩ := wi_e hf
        refine r_iast hx hb hK hI hAd hP hS (by omega) h15 i24 dX7_tell_150 ef23 (fun C H locs hP hS he hn => ?_)
        have hag : ∀ i : Nat, i ≠ 10 ∧ i ≠ 11 ∧ i ≠ 12 ∧ i ≠ 13 ∧ i ≠ 14 ∧ i ≠ 15 ∧ i ≠ 16 ∧ i ≠ 17 ∧ i ≠ 18 ∧ i ≠ 5 ∧ i ≠ 6 ∧ i ≠ 7 ∧ i ≠ 8 ∧ i ≠ 9 → C i = C0 i := fun i h => (he i (by omega)).trans (hag i h)
        have h4 := (he 4 (by decide)).trans h4
        have h5 := (he 5 (by decide)).trans h5
        have h6 := (he 6 (by decide)).trans h6
        have h7 := (he 7 (by decide)).trans h7
        have h8 := (he 8 (by decide)).trans h8
        have h9 := (he 9 (by decide)).trans h9
        have h10 := (he 10 (by decide)).trans h10
        have h11 := (he 11 (by decide)).trans h11
        have h12 := (he 12 (by decide)).trans h12
        have h13 := (he 13 (by decide)).trans h13
        have h14 := (he 14 (by decide)).trans h14
        have h16 := (he 16 (by decide)).trans h16
        have h17 := (he 17 (by decide)).trans h17
        have h18 := (he 18 (by decide)).trans h18
        have h15 : C 15 = aI g 24 f23 := hn
        refine lv_goto (tgt := 184) hx hb dX7_tell_151 (by decide) ?_
        obtain rfl := Option.some.inj hf
        rw [← hQ]
        exact e_vW hx hb hr hP hS ⟨hag, h10, h11, h12, h13, h14, h15, h16, h17, h18, h5, h6, h7, h8, h9⟩ hlocks dX7_tell_184
      have hf := ie_e c22 hf
      by_cases c25 : p0 = 5
      · have hf := it_e c25 hf
        refine lv_tableIn (tgt := 154) hx hb dX7_tell_40 (by rw [c25]; decide) (by rw [c25]; decide) (by rw [c25]; rfl) (by decide) ?_
        refine lv_aload_n hx hb dX7_tell_154 rfl (lv_at hl 4 rfl) ?_
        refine lv_iload hx hb dX7_tell_155 (lv_at hl 3 rfl) ?_
        refine lv_iload hx hb dX7_tell_157 (lv_at hl 2 rfl) ?_
        refine lv_iload hx hb dX7_tell_159 (lv_at hl 1 rfl) ?_
        refine lv_iload hx hb dX7_tell_161 (lv_at hl 0 rfl) ?_
        obtain ⟨q26, hq26, hf⟩ := bd_e hf
        refine k_vW (va_runV (C := RX7) (As := [.int x3, .int x5, .int x7, .int x9]) (rest := []) ⟨hx, hb, hml, hown, hts⟩ (c_X7_giveCup (l := l) (sz := H.size) (p0 := x3) (p1 := x5) (p2 := x7) (p3 := x9) hN hI h5 h16 h17 h18 hq26) (cwV 4 hts gX7_tell_X7_giveCup rfl rfl rfl (by decide +kernel) ⟨Nat.le_of_ble_eq_true rfl, Nat.le_of_ble_eq_true rfl⟩) (preV_of hK hP (by omega) h5 rfl) rfl rfl hl.1 rfl (lv_room (Nat.le_of_ble_eq_true rfl)) dX7_tell_163 ⟨Nat.le_of_ble_eq_true rfl, Nat.le_of_ble_eq_true rfl⟩) hA hAd hS (fun C H locs hP hS hpo => ?_)
        obtain ⟨he, h16, h17, h18⟩ := hpo
        have hag : ∀ i : Nat, i ≠ 10 ∧ i ≠ 11 ∧ i ≠ 12 ∧ i ≠ 13 ∧ i ≠ 14 ∧ i ≠ 15 ∧ i ≠ 16 ∧ i ≠ 17 ∧ i ≠ 18 ∧ i ≠ 5 ∧ i ≠ 6 ∧ i ≠ 7 ∧ i ≠ 8 ∧ i ≠ 9 → C i = C0 i := fun i h => (he i (by omega)).trans (hag i h)
        have h4 := (he 4 (by decide)).trans h4
        have h5 := (he 5 (by decide)).trans h5
        have h6 := (he 6 (by decide)).trans h6
        have h7 := (he 7 (by decide)).trans h7
        have h8 := (he 8 (by decide)).trans h8
        have h9 := (he 9 (by decide)).trans h9
        have h10 := (he 10 (by decide)).trans h10
        have h11 := (he 11 (by decide)).trans h11
        have h12 := (he 12 (by decide)).trans h12
        have h13 := (he 13 (by decide)).trans h13
        have h14 := (he 14 (by decide)).trans h14
        have h15 := (he 15 (by decide)).trans h15
        refine lv_goto (tgt := 184) hx hb dX7_tell_166 (by decide) ?_
        obtain rfl := Option.some.inj hf
        rw [← hQ]
        exact e_vW hx hb hr hP hS ⟨hag, h10, h11, h12, h13, h14, h15, h16, h17, h18, h5, h6, h7, h8, h9⟩ hlocks dX7_tell_184
      have hf := ie_e c25 hf
      by_cases c27 : p0 = 6
      · have hf := it_e c27 hf
        refine lv_tableIn (tgt := 169) hx hb dX7_tell_40 (by rw [c27]; decide) (by rw [c27]; decide) (by rw [c27]; rfl) (by decide) ?_
        refine lv_aload_n hx hb dX7_tell_169 rfl (lv_at hl 4 rfl) ?_
        refine lv_iload hx hb dX7_tell_170 (lv_at hl 3 rfl) ?_
        refine r_put (own := RX7) (T := TX7) (n := 16) (ci := 7) (v := .int x3) hx hb hts nX7 tyX7 tyX7_ok nmX7 hown hK hI hAd hP hS (by omega) h5 rfl 14 (by decide) k3 rfl rfl rfl (Nat.le_of_ble_eq_true rfl) dX7_tell_172 (fun C H locs hP hS he hn => ?_)
        have hag : ∀ i : Nat, i ≠ 10 ∧ i ≠ 11 ∧ i ≠ 12 ∧ i ≠ 13 ∧ i ≠ 14 ∧ i ≠ 15 ∧ i ≠ 16 ∧ i ≠ 17 ∧ i ≠ 18 ∧ i ≠ 5 ∧ i ≠ 6 ∧ i ≠ 7 ∧ i ≠ 8 ∧ i ≠ 9 → C i = C0 i := fun i h => (he i (by omega)).trans (hag i h)
        have h4 := (he 4 (by decide)).trans h4
        have h6 := (he 6 (by decide)).trans h6
        have h7 := (he 7 (by decide)).trans h7
        have h8 := (he 8 (by decide)).trans h8
        have h9 := (he 9 (by decide)).trans h9
        have h10 := (he 10 (by decide)).trans h10
        have h11 := (he 11 (by decide)).trans h11
        have h12 := (he 12 (by decide)).trans h12
        have h13 := (he 13 (by decide)).trans h13
        have h14 := (he 14 (by decide)).trans h14
        have h15 := (he 15 (by decide)).trans h15
        have h16 := (he 16 (by decide)).trans h16
        have h17 := (he 17 (by decide)).trans h17
        have h18 := (he 18 (by decide)).trans h18
        have h5 : C 5 = .inr (7, [.ref (ad 6), .ref (ad 7), .ref (ad 8), .ref (ad 9), .ref (ad 10), .ref (ad 11), .ref (ad 12), .ref (ad 13), .ref (ad 14), .ref (ad 15), .ref (ad 16), .ref (ad 17), .ref (ad 18), .int t_there, .int x3, .int t_none]) := hn
        refine lv_goto (tgt := 184) hx hb dX7_tell_175 (by decide) ?_
        obtain rfl := Option.some.inj hf
        rw [← hQ]
        exact e_vW hx hb hr hP hS ⟨hag, h10, h11, h12, h13, h14, h15, h16, h17, h18, h5, h6, h7, h8, h9⟩ hlocks dX7_tell_184
      have hf := ie_e c27 hf
      have hsw : Int32.toInt p0 < 0 ∨ 6 < Int32.toInt p0 := by
        have qc11 := ne_toInt c11
        rw [show Int32.toInt 0 = 0 from rfl] at qc11
        have qc15 := ne_toInt c15
        rw [show Int32.toInt 1 = 1 from rfl] at qc15
        have qc18 := ne_toInt c18
        rw [show Int32.toInt 2 = 2 from rfl] at qc18
        have qc20 := ne_toInt c20
        rw [show Int32.toInt 3 = 3 from rfl] at qc20
        have qc22 := ne_toInt c22
        rw [show Int32.toInt 4 = 4 from rfl] at qc22
        have qc25 := ne_toInt c25
        rw [show Int32.toInt 5 = 5 from rfl] at qc25
        have qc27 := ne_toInt c27
        rw [show Int32.toInt 6 = 6 from rfl] at qc27
        omega
      refine lv_tableOut (tgt := 178) hx hb dX7_tell_40 hsw (by decide) ?_
      refine lv_aload_n hx hb dX7_tell_178 rfl (lv_at hl 4 rfl) ?_
      refine lv_iload hx hb dX7_tell_179 (lv_at hl 3 rfl) ?_
      refine r_put (own := RX7) (T := TX7) (n := 16) (ci := 7) (v := .int x3) hx hb hts nX7 tyX7 tyX7_ok nmX7 hown hK hI hAd hP hS (by omega) h5 rfl 15 (by decide) k4 rfl rfl rfl (Nat.le_of_ble_eq_true rfl) dX7_tell_181 (fun C H locs hP hS he hn => ?_)
      have hag : ∀ i : Nat, i ≠ 10 ∧ i ≠ 11 ∧ i ≠ 12 ∧ i ≠ 13 ∧ i ≠ 14 ∧ i ≠ 15 ∧ i ≠ 16 ∧ i ≠ 17 ∧ i ≠ 18 ∧ i ≠ 5 ∧ i ≠ 6 ∧ i ≠ 7 ∧ i ≠ 8 ∧ i ≠ 9 → C i = C0 i := fun i h => (he i (by omega)).trans (hag i h)
      have h4 := (he 4 (by decide)).trans h4
      have h6 := (he 6 (by decide)).trans h6
      have h7 := (he 7 (by decide)).trans h7
      have h8 := (he 8 (by decide)).trans h8
      have h9 := (he 9 (by decide)).trans h9
      have h10 := (he 10 (by decide)).trans h10
      have h11 := (he 11 (by decide)).trans h11
      have h12 := (he 12 (by decide)).trans h12
      have h13 := (he 13 (by decide)).trans h13
      have h14 := (he 14 (by decide)).trans h14
      have h15 := (he 15 (by decide)).trans h15
      have h16 := (he 16 (by decide)).trans h16
      have h17 := (he 17 (by decide)).trans h17
      have h18 := (he 18 (by decide)).trans h18
      have h5 : C 5 = .inr (7, [.ref (ad 6), .ref (ad 7), .ref (ad 8), .ref (ad 9), .ref (ad 10), .ref (ad 11), .ref (ad 12), .ref (ad 13), .ref (ad 14), .ref (ad 15), .ref (ad 16), .ref (ad 17), .ref (ad 18), .int t_there, .int t_lift, .int x3]) := hn
      obtain rfl := Option.some.inj hf
      rw [← hQ]
      exact e_vW hx hb hr hP hS ⟨hag, h10, h11, h12, h13, h14, h15, h16, h17, h18, h5, h6, h7, h8, h9⟩ hlocks dX7_tell_184
    · have hf := ie_e c2 hf
      obtain rfl := Option.some.inj hf
      rw [← hQ]
      exact e_vW hx hb hr hP hS ⟨hag, h10, h11, h12, h13, h14, h15, h16, h17, h18, h5, h6, h7, h8, h9⟩ hlocks dX7_tell_12

def LX5_append_3 (p0 : Int64) (p1 : Int32) (ko : Int32 → (Nat → Int32) → Int32 → Option (Int32 × Int32 × (Nat → Int32))) : Nat → Int32 → (Nat → Int32) → Int32 → Option (Int32 × Int32 × (Nat → Int32))
  | 0, _, _, _ => none
  | n + 1, x1, f2, x3 =>
    if p1 ≤ x1 then
      ko x1 f2 x3
    else
      if 200 ≤ x3 then
        ko x1 f2 x3
      else
        wi f2 200 (x3) ((Int64.toInt32 ((p0 >>> (Int32.toInt64 (8 * x1) &&& 63)) &&& (255 : Int64)))) fun f9 =>
        lt ((x3 + 1) : Int32) fun x11 =>
        lt (x1 + 1 : Int32) fun x12 =>
        LX5_append_3 p0 p1 ko n x12 f9 x11
theorem LX5_append_3_z (p0 : Int64) (p1 : Int32) (ko : Int32 → (Nat → Int32) → Int32 → Option (Int32 × Int32 × (Nat → Int32))) (x1 : Int32) (f2 : Nat → Int32) (x3 : Int32) : LX5_append_3 p0 p1 ko 0 x1 f2 x3 = none := rfl
theorem LX5_append_3_s (p0 : Int64) (p1 : Int32) (ko : Int32 → (Nat → Int32) → Int32 → Option (Int32 × Int32 × (Nat → Int32))) (n : Nat) (x1 : Int32) (f2 : Nat → Int32) (x3 : Int32) : LX5_append_3 p0 p1 ko (n + 1) x1 f2 x3 =
    if p1 ≤ x1 then
      ko x1 f2 x3
    else
      if 200 ≤ x3 then
        ko x1 f2 x3
      else
        wi f2 200 (x3) ((Int64.toInt32 ((p0 >>> (Int32.toInt64 (8 * x1) &&& 63)) &&& (255 : Int64)))) fun f9 =>
        lt ((x3 + 1) : Int32) fun x11 =>
        lt (x1 + 1 : Int32) fun x12 =>
        LX5_append_3 p0 p1 ko n x12 f9 x11 := rfl
def f_X5_append (p0 : Int64) (p1 : Int32) (tx_len : Int32) (tx_b : Nat → Int32) : Option (Int32 × Int32 × (Nat → Int32)) :=
  LX5_append_3 p0 p1 (fun x4 f5 x6 =>
    some (x6, x6, f5)) FU 0 tx_b tx_len
abbrev rmX5_append : Room := { frames := 0, cells := 0, slots := 0, locals := 0 }
set_option maxHeartbeats 4000000 in
set_option maxRecDepth 100000 in
theorem c_X5_append {l : Launch} {D : va_G} {g : Nat → ClassId} {N : Nat} {ad : Nat → Nat} {C : Nat → va_E} {sz : Nat} {tx_len : Int32} {tx_lines : Int32} {tx_ts : Int32} {tx_te : Int32} {tx_b : Nat → Int32} {p0 : Int64} {p1 : Int32} {rr : Int32 × Int32 × (Nat → Int32)} (hN : 86 ≤ N) (hI : Inj N ad) (h1 : C 1 = .inr (5, [.ref (ad 2), .ref (ad 3), .ref (ad 4), .int tx_len, .int tx_lines, .int tx_ts, .int tx_te])) (h2 : C 2 = aI g 200 tx_b) (hf : f_X5_append p0 p1 tx_len tx_b = some rr) : Met l yX5_append wsX5_append rmX5_append (PcW D g N ad C sz [.ref (ad 1), .long p0, .int p1]) (QiW D N ad sz tP rr.1 (fun C' => (∀ i : Nat, i ≠ 1 ∧ i ≠ 2 → C' i = C i) ∧ (C' 1 = .inr (5, [.ref (ad 2), .ref (ad 3), .ref (ad 4), .int rr.2.1, .int tx_lines, .int tx_ts, .int tx_te])) ∧ (C' 2 = aI g 200 rr.2.2))) 0 0 (Aw N ad sz) := by
  refine Met.ofW (cc := cX5_append) (maxL := 5) (ret := (some .int)) (by decide) rfl ?_
  intro p e s m args below meth c s₁ B hml hv
  obtain ⟨hav, hsz, hK, hP⟩ := hv
  subst hsz
  have hx := B.exec
  have hb := B.bytes
  have hr := B.returns
  have hts := atoms_spec (ws := wsX5_append) B.pre
  have hown : s.vm.findClass RX5 = some m.cls := findClass_of_methodNamed B.named
  have hlocks := B.notSynchronized
  generalize hQ : MQ below (QiW D N ad s.heap.size tP rr.1 (fun C' => (∀ i : Nat, i ≠ 1 ∧ i ≠ 2 → C' i = C i) ∧ (C' 1 = .inr (5, [.ref (ad 2), .ref (ad 3), .ref (ad 4), .int rr.2.1, .int tx_lines, .int tx_ts, .int tx_te])) ∧ (C' 2 = aI g 200 rr.2.2))) args s 0 0 (Aw N ad s.heap.size) = QQ
  have hS : va_S (Aw N ad s.heap.size) s.heap s.heap [] := va_S.rf
  have hA : ∀ q, s.heap.size ≤ q → (Aw N ad s.heap.size) q := fun q h => Or.inr h
  have hAd : ∀ j : Nat, j < N → (Aw N ad s.heap.size) (ad j) := fun j h => Or.inl ⟨j, h, rfl⟩
  obtain ⟨C0, hC0⟩ : ∃ C0 : Nat → va_E, C0 = C := ⟨_, rfl⟩
  have hag : ∀ i : Nat, i ≠ 1 ∧ i ≠ 2 → C i = C0 i := fun i _ => by rw [hC0]
  rw [← hC0] at hQ
  have k0 := hts (.fieldLink RX5 21 "UpDrain$Text" "length" "I") (List.mem_of_getElem? (i := 1) rfl)
  have nX5 : ∀ w ∈ u_ws RX5 TX5 7, w ∈ wsX5_append := fun _ h => List.mem_cons_of_mem _ (List.mem_append_right _ h)
  have k2 := hts (.fieldLink RX5 11 "UpDrain$Text" "bytes" "[I") (List.mem_of_getElem? (i := 2) rfl)
  have k3 := hts (.constantLong RX5 25 (255)) (List.mem_of_getElem? (i := 3) rfl)
  have hE := lg_entry_eq m [.ref (ad 1), .long p0, .int p1] 5
  rw [← hav] at hE
  rw [hE]
  have hl := lv_entry [.ref (ad 1), .long p0, .int p1] (n := 5) (Nat.le_of_ble_eq_true rfl)
  generalize (lg_sl [.ref (ad 1), .long p0, .int p1] ++ List.replicate (5 - (lg_sl [.ref (ad 1), .long p0, .int p1]).length) Slot.unset).toArray = ls at hl ⊢
  have hl : lv_has ls 5 [(0, .ref (ad 1)), (1, .long p0), (3, .int p1)] := hl
  clear hE
  unfold f_X5_append at hf
  suffices hgo : ∀ (H : Heap) (locs : List Loc), va_P D vwCl (wd N ad C) H → va_S (Aw N ad s.heap.size) s.heap H locs → W p l e (headSpec wsX5_append rmX5_append).room s m args below meth c H locs 0 0 QQ (F0 m 0 ls []) from hgo s.heap [] hP hS
  clear hS hP
  intro H locs hP hS
  refine lv_iconst (v := 0) hx hb dX5_append_0 (by decide) ?_
  refine lv_istore (lv' := [(4, .int 0), (0, .ref (ad 1)), (1, .long p0), (3, .int p1)]) hx hb dX5_append_1 hl (by decide) rfl (fun ls hl => ?_)
  have key3 : ∀ (ko : Int32 → (Nat → Int32) → Int32 → Option (Int32 × Int32 × (Nat → Int32))), (∀ (x4 : Int32) (f5 : Nat → Int32) (x6 : Int32) (C : Nat → va_E) (H : Heap) (locs : List Loc) (ls : Array Slot), va_P D vwCl (wd N ad C) H → va_S (Aw N ad s.heap.size) s.heap H locs → (∀ i : Nat, i ≠ 1 ∧ i ≠ 2 → C i = C0 i) → C 1 = .inr (5, [.ref (ad 2), .ref (ad 3), .ref (ad 4), .int x6, .int tx_lines, .int tx_ts, .int tx_te]) → C 2 = aI g 200 f5 → lv_has ls 5 [(0, .ref (ad 1)), (1, .long p0), (3, .int p1), (4, .int x4)] → ko x4 f5 x6 = some rr → W p l e (headSpec wsX5_append rmX5_append).room s m args below meth c H locs 0 0 QQ (F0 m 56 ls [])) → ∀ (n : Nat) (x1 : Int32) (f2 : Nat → Int32) (x3 : Int32) (C : Nat → va_E) (H : Heap) (locs : List Loc) (ls : Array Slot), va_P D vwCl (wd N ad C) H → va_S (Aw N ad s.heap.size) s.heap H locs → (∀ i : Nat, i ≠ 1 ∧ i ≠ 2 → C i = C0 i) → C 1 = .inr (5, [.ref (ad 2), .ref (ad 3), .ref (ad 4), .int x3, .int tx_lines, .int tx_ts, .int tx_te]) → C 2 = aI g 200 f2 → lv_has ls 5 [(0, .ref (ad 1)), (1, .long p0), (3, .int p1), (4, .int x1)] → LX5_append_3 p0 p1 ko n x1 f2 x3 = some rr → W p l e (headSpec wsX5_append rmX5_append).room s m args below meth c H locs 0 0 QQ (F0 m 3 ls []) := by
    intro ko hko n
    induction n with
    | zero =>
      intro x1 f2 x3 C H locs ls hP hS hag h1 h2 hl hf
      rw [LX5_append_3_z] at hf
      cases hf
    | succ n ih =>
      intro x1 f2 x3 C H locs ls hP hS hag h1 h2 hl hf
      rw [LX5_append_3_s] at hf
      refine lv_iload hx hb dX5_append_3 (lv_at hl 3 rfl) ?_
      refine lv_iload_n hx hb dX5_append_5 rfl (lv_at hl 2 rfl) ?_
      refine lv_icmp_ge (tgt := 56) hx hb dX5_append_6 (by decide) (fun c7 => ?_) (fun c7 => ?_)
      · have hf := it_e c7 hf
        exact hko x1 f2 x3 C H locs ls hP hS hag h1 h2 (lv_sub hl [0, 1, 2, 3] rfl) hf
      · have hf := ie_e c7 hf
        refine lv_aload_n hx hb dX5_append_9 rfl (lv_at hl 0 rfl) ?_
        refine r_get (own := RX5) (T := TX5) (n := 7) (ci := 5) (v := .int x3) hx hb hts nX5 hown hK hP (by omega) h1 rfl 3 (by decide) k0 rfl dX5_append_10 ?_
        refine lv_sipush (v := 200) hx hb dX5_append_13 (by decide) ?_
        refine lv_icmp_ge (tgt := 56) hx hb dX5_append_16 (by decide) (fun c8 => ?_) (fun c8 => ?_)
        · have hf := it_e c8 hf
          exact hko x1 f2 x3 C H locs ls hP hS hag h1 h2 (lv_sub hl [0, 1, 2, 3] rfl) hf
        · have hf := ie_e c8 hf
          refine lv_aload_n hx hb dX5_append_19 rfl (lv_at hl 0 rfl) ?_
          refine r_get (own := RX5) (T := TX5) (n := 7) (ci := 5) (v := .ref (ad 2)) hx hb hts nX5 hown hK hP (by omega) h1 rfl 0 (by decide) k2 rfl dX5_append_20 ?_
          refine lv_aload_n hx hb dX5_append_23 rfl (lv_at hl 0 rfl) ?_
          refine r_get (own := RX5) (T := TX5) (n := 7) (ci := 5) (v := .int x3) hx hb hts nX5 hown hK hP (by omega) h1 rfl 3 (by decide) k0 rfl dX5_append_24 ?_
          refine lv_lload_n hx hb dX5_append_27 rfl (lv_at hl 1 rfl) ?_
          refine lv_bipush (v := 8) hx hb dX5_append_28 (by decide) ?_
          refine lv_iload hx hb dX5_append_30 (lv_at hl 3 rfl) ?_
          refine lv_imul hx hb dX5_append_32 ?_
          refine lv_lshr hx hb dX5_append_33 rfl ?_
          refine lv_ldc2 (own := RX5) hx hb hown k3 dX5_append_34 ?_
          refine lv_land hx hb dX5_append_37 ?_
          refine lv_l2i hx hb dX5_append_38 rfl ?_
          obtain ⟨i10, f9, ef9, hf⟩ := wi_e hf
          refine r_iast hx hb hK hI hAd hP hS (by omega) h2 i10 dX5_append_39 ef9 (fun C H locs hP hS he hn => ?_)
          have hag : ∀ i : Nat, i ≠ 1 ∧ i ≠ 2 → C i = C0 i := fun i h => (he i (by omega)).trans (hag i h)
          have h1 := (he 1 (by decide)).trans h1
          have h2 : C 2 = aI g 200 f9 := hn
          refine lv_aload_n hx hb dX5_append_40 rfl (lv_at hl 0 rfl) ?_
          refine lv_dup hx hb dX5_append_41 rfl ?_
          refine r_get (own := RX5) (T := TX5) (n := 7) (ci := 5) (v := .int x3) hx hb hts nX5 hown hK hP (by omega) h1 rfl 3 (by decide) k0 rfl dX5_append_42 ?_
          refine lv_iconst (v := 1) hx hb dX5_append_45 (by decide) ?_
          refine lv_iadd hx hb dX5_append_46 ?_
          obtain ⟨x11, ex11, hf⟩ := lt_e hf
          refine tp_i ex11 ?_
          refine r_put (own := RX5) (T := TX5) (n := 7) (ci := 5) (v := .int x11) hx hb hts nX5 tyX5 tyX5_ok nmX5 hown hK hI hAd hP hS (by omega) h1 rfl 3 (by decide) k0 rfl rfl rfl (Nat.le_of_ble_eq_true rfl) dX5_append_47 (fun C H locs hP hS he hn => ?_)
          have hag : ∀ i : Nat, i ≠ 1 ∧ i ≠ 2 → C i = C0 i := fun i h => (he i (by omega)).trans (hag i h)
          have h2 := (he 2 (by decide)).trans h2
          have h1 : C 1 = .inr (5, [.ref (ad 2), .ref (ad 3), .ref (ad 4), .int x11, .int tx_lines, .int tx_ts, .int tx_te]) := hn
          obtain ⟨x12, ex12, hf⟩ := lt_e hf
          refine lv_iinc (v := x12) (lv' := [(4, .int x12), (0, .ref (ad 1)), (1, .long p0), (3, .int p1)]) hx hb dX5_append_50 hl (k := 3) rfl (by rw [ex12]; rfl) (by decide) rfl (fun ls hl => ?_)
          refine lv_goto (tgt := 3) hx hb dX5_append_53 (by decide) ?_
          exact ih x12 f9 x11 C H locs ls hP hS hag h1 h2 (lv_sub hl [1, 2, 3, 0] rfl) hf
  refine key3 _ (fun x4 f5 x6 C H locs ls hP hS hag h1 h2 hl hf => ?_) FU 0 tx_b tx_len C H locs ls hP hS hag h1 h2 (lv_sub hl [1, 2, 3, 0] rfl) hf
  refine lv_aload_n hx hb dX5_append_56 rfl (lv_at hl 0 rfl) ?_
  refine r_get (own := RX5) (T := TX5) (n := 7) (ci := 5) (v := .int x6) hx hb hts nX5 hown hK hP (by omega) h1 rfl 3 (by decide) k0 rfl dX5_append_57 ?_
  obtain rfl := Option.some.inj hf
  rw [← hQ]
  exact e_iW hx hb hr rfl (tP_i _) hP hS ⟨hag, h1, h2⟩ hlocks dX5_append_60

def f_X5_empty (tx_len : Int32) : Option (Int32 × Int32) :=
  some (tx_len, 0)
abbrev rmX5_empty : Room := { frames := 0, cells := 0, slots := 0, locals := 0 }
set_option maxHeartbeats 4000000 in
set_option maxRecDepth 100000 in
theorem c_X5_empty {l : Launch} {D : va_G} {g : Nat → ClassId} {N : Nat} {ad : Nat → Nat} {C : Nat → va_E} {sz : Nat} {tx_len : Int32} {tx_lines : Int32} {tx_ts : Int32} {tx_te : Int32}  {rr : Int32 × Int32} (hN : 86 ≤ N) (hI : Inj N ad) (h1 : C 1 = .inr (5, [.ref (ad 2), .ref (ad 3), .ref (ad 4), .int tx_len, .int tx_lines, .int tx_ts, .int tx_te])) (hf : f_X5_empty tx_len = some rr) : Met l yX5_empty wsX5_empty rmX5_empty (PcW D g N ad C sz [.ref (ad 1)]) (QiW D N ad sz tP rr.1 (fun C' => (∀ i : Nat, i ≠ 1 → C' i = C i) ∧ (C' 1 = .inr (5, [.ref (ad 2), .ref (ad 3), .ref (ad 4), .int rr.2, .int tx_lines, .int tx_ts, .int tx_te])))) 0 0 (Aw N ad sz) := by
  refine Met.ofW (cc := cX5_empty) (maxL := 2) (ret := (some .int)) (by decide) rfl ?_
  intro p e s m args below meth c s₁ B hml hv
  obtain ⟨hav, hsz, hK, hP⟩ := hv
  subst hsz
  have hx := B.exec
  have hb := B.bytes
  have hr := B.returns
  have hts := atoms_spec (ws := wsX5_empty) B.pre
  have hown : s.vm.findClass RX5 = some m.cls := findClass_of_methodNamed B.named
  have hlocks := B.notSynchronized
  generalize hQ : MQ below (QiW D N ad s.heap.size tP rr.1 (fun C' => (∀ i : Nat, i ≠ 1 → C' i = C i) ∧ (C' 1 = .inr (5, [.ref (ad 2), .ref (ad 3), .ref (ad 4), .int rr.2, .int tx_lines, .int tx_ts, .int tx_te])))) args s 0 0 (Aw N ad s.heap.size) = QQ
  have hS : va_S (Aw N ad s.heap.size) s.heap s.heap [] := va_S.rf
  have hA : ∀ q, s.heap.size ≤ q → (Aw N ad s.heap.size) q := fun q h => Or.inr h
  have hAd : ∀ j : Nat, j < N → (Aw N ad s.heap.size) (ad j) := fun j h => Or.inl ⟨j, h, rfl⟩
  obtain ⟨C0, hC0⟩ : ∃ C0 : Nat → va_E, C0 = C := ⟨_, rfl⟩
  have hag : ∀ i : Nat, i ≠ 1 → C i = C0 i := fun i _ => by rw [hC0]
  rw [← hC0] at hQ
  have k0 := hts (.fieldLink RX5 21 "UpDrain$Text" "length" "I") (List.mem_of_getElem? (i := 1) rfl)
  have nX5 : ∀ w ∈ u_ws RX5 TX5 7, w ∈ wsX5_empty := fun _ h => List.mem_cons_of_mem _ (List.mem_append_right _ h)
  have hE := lg_entry_eq m [.ref (ad 1)] 2
  rw [← hav] at hE
  rw [hE]
  have hl := lv_entry [.ref (ad 1)] (n := 2) (Nat.le_of_ble_eq_true rfl)
  generalize (lg_sl [.ref (ad 1)] ++ List.replicate (2 - (lg_sl [.ref (ad 1)]).length) Slot.unset).toArray = ls at hl ⊢
  have hl : lv_has ls 2 [(0, .ref (ad 1))] := hl
  clear hE
  unfold f_X5_empty at hf
  suffices hgo : ∀ (H : Heap) (locs : List Loc), va_P D vwCl (wd N ad C) H → va_S (Aw N ad s.heap.size) s.heap H locs → W p l e (headSpec wsX5_empty rmX5_empty).room s m args below meth c H locs 0 0 QQ (F0 m 0 ls []) from hgo s.heap [] hP hS
  clear hS hP
  intro H locs hP hS
  refine lv_aload_n hx hb dX5_empty_0 rfl (lv_at hl 0 rfl) ?_
  refine r_get (own := RX5) (T := TX5) (n := 7) (ci := 5) (v := .int tx_len) hx hb hts nX5 hown hK hP (by omega) h1 rfl 3 (by decide) k0 rfl dX5_empty_1 ?_
  refine lv_istore_n (lv' := [(1, .int tx_len), (0, .ref (ad 1))]) hx hb dX5_empty_4 rfl hl (by decide) rfl (fun ls hl => ?_)
  refine lv_aload_n hx hb dX5_empty_5 rfl (lv_at hl 1 rfl) ?_
  refine lv_iconst (v := 0) hx hb dX5_empty_6 (by decide) ?_
  refine r_put (own := RX5) (T := TX5) (n := 7) (ci := 5) (v := .int 0) hx hb hts nX5 tyX5 tyX5_ok nmX5 hown hK hI hAd hP hS (by omega) h1 rfl 3 (by decide) k0 rfl rfl rfl (Nat.le_of_ble_eq_true rfl) dX5_empty_7 (fun C H locs hP hS he hn => ?_)
  have hag : ∀ i : Nat, i ≠ 1 → C i = C0 i := fun i h => (he i (by omega)).trans (hag i h)
  have h1 : C 1 = .inr (5, [.ref (ad 2), .ref (ad 3), .ref (ad 4), .int 0, .int tx_lines, .int tx_ts, .int tx_te]) := hn
  refine lv_iload_n hx hb dX5_empty_10 rfl (lv_at hl 0 rfl) ?_
  obtain rfl := Option.some.inj hf
  rw [← hQ]
  exact e_iW hx hb hr rfl (tP_i _) hP hS ⟨hag, h1⟩ hlocks dX5_empty_11

def f_X5_isLetter (p0 : Int32) : Option (Int32) :=
  if p0 < 97 then
    some (0)
  else
    if 122 < p0 then
      some (0)
    else
      some (1)
abbrev rmX5_isLetter : Room := { frames := 0, cells := 0, slots := 0, locals := 0 }
set_option maxHeartbeats 4000000 in
set_option maxRecDepth 100000 in
theorem c_X5_isLetter {l : Launch} {sz : Nat}  {p0 : Int32} {rr : Int32} (hf : f_X5_isLetter p0 = some rr) : Met l yX5_isLetter wsX5_isLetter rmX5_isLetter (PcS sz [.int p0]) (QiR sz bz rr) 0 0 (An sz) := by
  refine Met.ofW (cc := cX5_isLetter) (maxL := 1) (ret := (some .boolean)) (by decide) rfl ?_
  intro p e s m args below meth c s₁ B hml hv
  obtain ⟨hav, hsz⟩ := hv
  subst hsz
  have hx := B.exec
  have hb := B.bytes
  have hr := B.returns
  have hts := atoms_spec (ws := wsX5_isLetter) B.pre
  have hown : s.vm.findClass RX5 = some m.cls := findClass_of_methodNamed B.named
  have hlocks := B.notSynchronized
  generalize hQ : MQ below (QiR s.heap.size bz rr) args s 0 0 (An s.heap.size) = QQ
  have hS : va_S (An s.heap.size) s.heap s.heap [] := va_S.rf
  have hA : ∀ q, s.heap.size ≤ q → (An s.heap.size) q := fun q h => h
  have hE := lg_entry_eq m [.int p0] 1
  rw [← hav] at hE
  rw [hE]
  have hl := lv_entry [.int p0] (n := 1) (Nat.le_of_ble_eq_true rfl)
  generalize (lg_sl [.int p0] ++ List.replicate (1 - (lg_sl [.int p0]).length) Slot.unset).toArray = ls at hl ⊢
  have hl : lv_has ls 1 [(0, .int p0)] := hl
  clear hE
  unfold f_X5_isLetter at hf
  suffices hgo : ∀ (H : Heap) (locs : List Loc), va_S (An s.heap.size) s.heap H locs → W p l e (headSpec wsX5_isLetter rmX5_isLetter).room s m args below meth c H locs 0 0 QQ (F0 m 0 ls []) from hgo s.heap [] hS
  clear hS
  intro H locs hS
  refine lv_iload_n hx hb dX5_isLetter_0 rfl (lv_at hl 0 rfl) ?_
  refine lv_bipush (v := 97) hx hb dX5_isLetter_1 (by decide) ?_
  refine lv_icmp_lt (tgt := 16) hx hb dX5_isLetter_3 (by decide) (fun c1 => ?_) (fun c1 => ?_)
  · have hf := it_e c1 hf
    refine lv_iconst (v := 0) hx hb dX5_isLetter_16 (by decide) ?_
    obtain rfl := Option.some.inj hf
    rw [← hQ]
    exact e_zR hx hb hr rfl bz0 hS hlocks dX5_isLetter_17
  · have hf := ie_e c1 hf
    refine lv_iload_n hx hb dX5_isLetter_6 rfl (lv_at hl 0 rfl) ?_
    refine lv_bipush (v := 122) hx hb dX5_isLetter_7 (by decide) ?_
    refine lv_icmp_gt (tgt := 16) hx hb dX5_isLetter_9 (by decide) (fun c2 => ?_) (fun c2 => ?_)
    · have hf := it_e c2 hf
      refine lv_iconst (v := 0) hx hb dX5_isLetter_16 (by decide) ?_
      obtain rfl := Option.some.inj hf
      rw [← hQ]
      exact e_zR hx hb hr rfl bz0 hS hlocks dX5_isLetter_17
    · have hf := ie_e c2 hf
      refine lv_iconst (v := 1) hx hb dX5_isLetter_12 (by decide) ?_
      refine lv_goto (tgt := 17) hx hb dX5_isLetter_13 (by decide) ?_
      obtain rfl := Option.some.inj hf
      rw [← hQ]
      exact e_zR hx hb hr rfl bz1 hS hlocks dX5_isLetter_17

def f_X5_isDigit (p0 : Int32) : Option (Int32) :=
  if p0 < 48 then
    some (0)
  else
    if 57 < p0 then
      some (0)
    else
      some (1)
abbrev rmX5_isDigit : Room := { frames := 0, cells := 0, slots := 0, locals := 0 }
set_option maxHeartbeats 4000000 in
set_option maxRecDepth 100000 in
theorem c_X5_isDigit {l : Launch} {sz : Nat}  {p0 : Int32} {rr : Int32} (hf : f_X5_isDigit p0 = some rr) : Met l yX5_isDigit wsX5_isDigit rmX5_isDigit (PcS sz [.int p0]) (QiR sz bz rr) 0 0 (An sz) := by
  refine Met.ofW (cc := cX5_isDigit) (maxL := 1) (ret := (some .boolean)) (by decide) rfl ?_
  intro p e s m args below meth c s₁ B hml hv
  obtain ⟨hav, hsz⟩ := hv
  subst hsz
  have hx := B.exec
  have hb := B.bytes
  have hr := B.returns
  have hts := atoms_spec (ws := wsX5_isDigit) B.pre
  have hown : s.vm.findClass RX5 = some m.cls := findClass_of_methodNamed B.named
  have hlocks := B.notSynchronized
  generalize hQ : MQ below (QiR s.heap.size bz rr) args s 0 0 (An s.heap.size) = QQ
  have hS : va_S (An s.heap.size) s.heap s.heap [] := va_S.rf
  have hA : ∀ q, s.heap.size ≤ q → (An s.heap.size) q := fun q h => h
  have hE := lg_entry_eq m [.int p0] 1
  rw [← hav] at hE
  rw [hE]
  have hl := lv_entry [.int p0] (n := 1) (Nat.le_of_ble_eq_true rfl)
  generalize (lg_sl [.int p0] ++ List.replicate (1 - (lg_sl [.int p0]).length) Slot.unset).toArray = ls at hl ⊢
  have hl : lv_has ls 1 [(0, .int p0)] := hl
  clear hE
  unfold f_X5_isDigit at hf
  suffices hgo : ∀ (H : Heap) (locs : List Loc), va_S (An s.heap.size) s.heap H locs → W p l e (headSpec wsX5_isDigit rmX5_isDigit).room s m args below meth c H locs 0 0 QQ (F0 m 0 ls []) from hgo s.heap [] hS
  clear hS
  intro H locs hS
  refine lv_iload_n hx hb dX5_isDigit_0 rfl (lv_at hl 0 rfl) ?_
  refine lv_bipush (v := 48) hx hb dX5_isDigit_1 (by decide) ?_
  refine lv_icmp_lt (tgt := 16) hx hb dX5_isDigit_3 (by decide) (fun c1 => ?_) (fun c1 => ?_)
  · have hf := it_e c1 hf
    refine lv_iconst (v := 0) hx hb dX5_isDigit_16 (by decide) ?_
    obtain rfl := Option.some.inj hf
    rw [← hQ]
    exact e_zR hx hb hr rfl bz0 hS hlocks dX5_isDigit_17
  · have hf := ie_e c1 hf
    refine lv_iload_n hx hb dX5_isDigit_6 rfl (lv_at hl 0 rfl) ?_
    refine lv_bipush (v := 57) hx hb dX5_isDigit_7 (by decide) ?_
    refine lv_icmp_gt (tgt := 16) hx hb dX5_isDigit_9 (by decide) (fun c2 => ?_) (fun c2 => ?_)
    · have hf := it_e c2 hf
      refine lv_iconst (v := 0) hx hb dX5_isDigit_16 (by decide) ?_
      obtain rfl := Option.some.inj hf
      rw [← hQ]
      exact e_zR hx hb hr rfl bz0 hS hlocks dX5_isDigit_17
    · have hf := ie_e c2 hf
      refine lv_iconst (v := 1) hx hb dX5_isDigit_12 (by decide) ?_
      refine lv_goto (tgt := 17) hx hb dX5_isDigit_13 (by decide) ?_
      obtain rfl := Option.some.inj hf
      rw [← hQ]
      exact e_zR hx hb hr rfl bz1 hS hlocks dX5_isDigit_17

def LX5_nextToken_5 (tx_len : Int32) (tx_b : Nat → Int32) (ko : Int32 → Option (Int32 × Int32)) : Nat → Int32 → Option (Int32 × Int32)
  | 0, _ => none
  | n + 1, x1 =>
    if tx_len ≤ x1 then
      ko x1
    else
      ri tx_b 200 (x1) fun x4 =>
      if x4 = 32 then
        lt (x1 + 1 : Int32) fun x7 =>
        LX5_nextToken_5 tx_len tx_b ko n x7
      else
        ko x1
theorem LX5_nextToken_5_z (tx_len : Int32) (tx_b : Nat → Int32) (ko : Int32 → Option (Int32 × Int32)) (x1 : Int32) : LX5_nextToken_5 tx_len tx_b ko 0 x1 = none := rfl
theorem LX5_nextToken_5_s (tx_len : Int32) (tx_b : Nat → Int32) (ko : Int32 → Option (Int32 × Int32)) (n : Nat) (x1 : Int32) : LX5_nextToken_5 tx_len tx_b ko (n + 1) x1 =
    if tx_len ≤ x1 then
      ko x1
    else
      ri tx_b 200 (x1) fun x4 =>
      if x4 = 32 then
        lt (x1 + 1 : Int32) fun x7 =>
        LX5_nextToken_5 tx_len tx_b ko n x7
      else
        ko x1 := rfl
def LX5_nextToken_66 (tx_len : Int32) (tx_b : Nat → Int32) (q11 : Int32) (q14 : Int32) (ko : Int32 → Option (Int32 × Int32)) : Nat → Int32 → Option (Int32 × Int32)
  | 0, _ => none
  | n + 1, x16 =>
    if tx_len ≤ x16 then
      ko x16
    else
      if q11 = 0 then
        if q14 = 0 then
          ko x16
        else
          ri tx_b 200 (x16) fun x21 =>
          (f_X5_isDigit x21).bind fun q23 =>
          if q23 = 0 then
            ko x16
          else
            lt (x16 + 1 : Int32) fun x25 =>
            LX5_nextToken_66 tx_len tx_b q11 q14 ko n x25
      else
        ri tx_b 200 (x16) fun x26 =>
        (f_X5_isLetter x26).bind fun q28 =>
        if q28 = 0 then
          if q14 = 0 then
            ko x16
          else
            ri tx_b 200 (x16) fun x32 =>
            (f_X5_isDigit x32).bind fun q34 =>
            if q34 = 0 then
              ko x16
            else
              lt (x16 + 1 : Int32) fun x36 =>
              LX5_nextToken_66 tx_len tx_b q11 q14 ko n x36
        else
          lt (x16 + 1 : Int32) fun x30 =>
          LX5_nextToken_66 tx_len tx_b q11 q14 ko n x30
theorem LX5_nextToken_66_z (tx_len : Int32) (tx_b : Nat → Int32) (q11 : Int32) (q14 : Int32) (ko : Int32 → Option (Int32 × Int32)) (x16 : Int32) : LX5_nextToken_66 tx_len tx_b q11 q14 ko 0 x16 = none := rfl
theorem LX5_nextToken_66_s (tx_len : Int32) (tx_b : Nat → Int32) (q11 : Int32) (q14 : Int32) (ko : Int32 → Option (Int32 × Int32)) (n : Nat) (x16 : Int32) : LX5_nextToken_66 tx_len tx_b q11 q14 ko (n + 1) x16 =
    if tx_len ≤ x16 then
      ko x16
    else
      if q11 = 0 then
        if q14 = 0 then
          ko x16
        else
          ri tx_b 200 (x16) fun x21 =>
          (f_X5_isDigit x21).bind fun q23 =>
          if q23 = 0 then
            ko x16
          else
            lt (x16 + 1 : Int32) fun x25 =>
            LX5_nextToken_66 tx_len tx_b q11 q14 ko n x25
      else
        ri tx_b 200 (x16) fun x26 =>
        (f_X5_isLetter x26).bind fun q28 =>
        if q28 = 0 then
          if q14 = 0 then
            ko x16
          else
            ri tx_b 200 (x16) fun x32 =>
            (f_X5_isDigit x32).bind fun q34 =>
            if q34 = 0 then
              ko x16
            else
              lt (x16 + 1 : Int32) fun x36 =>
              LX5_nextToken_66 tx_len tx_b q11 q14 ko n x36
        else
          lt (x16 + 1 : Int32) fun x30 =>
          LX5_nextToken_66 tx_len tx_b q11 q14 ko n x30 := rfl
def f_X5_nextToken (tx_len : Int32) (tx_ts : Int32) (tx_te : Int32) (tx_b : Nat → Int32) : Option (Int32 × Int32) :=
  LX5_nextToken_5 tx_len tx_b (fun x2 =>
    if tx_len ≤ x2 then
      some (x2, x2)
    else
      ri tx_b 200 (x2) fun x9 =>
      (f_X5_isLetter x9).bind fun q11 =>
      ri tx_b 200 (x2) fun x12 =>
      (f_X5_isDigit x12).bind fun q14 =>
      lt (x2 + 1 : Int32) fun x15 =>
      LX5_nextToken_66 tx_len tx_b q11 q14 (fun x17 =>
        some (x2, x17)) FU x15) FU tx_te
abbrev rmX5_nextToken : Room := { frames := 1, cells := 0, slots := 0, locals := 20 }
set_option maxHeartbeats 4000000 in
set_option maxRecDepth 100000 in
theorem c_X5_nextToken {l : Launch} {D : va_G} {g : Nat → ClassId} {N : Nat} {ad : Nat → Nat} {C : Nat → va_E} {sz : Nat} {tx_len : Int32} {tx_lines : Int32} {tx_ts : Int32} {tx_te : Int32} {tx_b : Nat → Int32}  {rr : Int32 × Int32} (hN : 86 ≤ N) (hI : Inj N ad) (h1 : C 1 = .inr (5, [.ref (ad 2), .ref (ad 3), .ref (ad 4), .int tx_len, .int tx_lines, .int tx_ts, .int tx_te])) (h2 : C 2 = aI g 200 tx_b) (hf : f_X5_nextToken tx_len tx_ts tx_te tx_b = some rr) : Met l yX5_nextToken wsX5_nextToken rmX5_nextToken (PcW D g N ad C sz [.ref (ad 1)]) (QvW D N ad sz (fun C' => (∀ i : Nat, i ≠ 1 → C' i = C i) ∧ (C' 1 = .inr (5, [.ref (ad 2), .ref (ad 3), .ref (ad 4), .int tx_len, .int tx_lines, .int rr.1, .int rr.2])))) 0 0 (Aw N ad sz) := by
  refine Met.ofW (cc := cX5_nextToken) (maxL := 4) (ret := none) (by decide) rfl ?_
  intro p e s m args below meth c s₁ B hml hv
  obtain ⟨hav, hsz, hK, hP⟩ := hv
  subst hsz
  have hx := B.exec
  have hb := B.bytes
  have hr := B.returns
  have hts := atoms_spec (ws := wsX5_nextToken) B.pre
  have hown : s.vm.findClass RX5 = some m.cls := findClass_of_methodNamed B.named
  have hlocks := B.notSynchronized
  generalize hQ : MQ below (QvW D N ad s.heap.size (fun C' => (∀ i : Nat, i ≠ 1 → C' i = C i) ∧ (C' 1 = .inr (5, [.ref (ad 2), .ref (ad 3), .ref (ad 4), .int tx_len, .int tx_lines, .int rr.1, .int rr.2])))) args s 0 0 (Aw N ad s.heap.size) = QQ
  have hS : va_S (Aw N ad s.heap.size) s.heap s.heap [] := va_S.rf
  have hA : ∀ q, s.heap.size ≤ q → (Aw N ad s.heap.size) q := fun q h => Or.inr h
  have hAd : ∀ j : Nat, j < N → (Aw N ad s.heap.size) (ad j) := fun j h => Or.inl ⟨j, h, rfl⟩
  obtain ⟨C0, hC0⟩ : ∃ C0 : Nat → va_E, C0 = C := ⟨_, rfl⟩
  have hag : ∀ i : Nat, i ≠ 1 → C i = C0 i := fun i _ => by rw [hC0]
  rw [← hC0] at hQ
  have k0 := hts (.fieldLink RX5 30 "UpDrain$Text" "tokenEnd" "I") (List.mem_of_getElem? (i := 1) rfl)
  have nX5 : ∀ w ∈ u_ws RX5 TX5 7, w ∈ wsX5_nextToken := fun _ h => List.mem_cons_of_mem _ (List.mem_append_right _ h)
  have k2 := hts (.fieldLink RX5 21 "UpDrain$Text" "length" "I") (List.mem_of_getElem? (i := 2) rfl)
  have k3 := hts (.fieldLink RX5 11 "UpDrain$Text" "bytes" "[I") (List.mem_of_getElem? (i := 3) rfl)
  have k4 := hts (.fieldLink RX5 37 "UpDrain$Text" "tokenStart" "I") (List.mem_of_getElem? (i := 4) rfl)
  have hE := lg_entry_eq m [.ref (ad 1)] 4
  rw [← hav] at hE
  rw [hE]
  have hl := lv_entry [.ref (ad 1)] (n := 4) (Nat.le_of_ble_eq_true rfl)
  generalize (lg_sl [.ref (ad 1)] ++ List.replicate (4 - (lg_sl [.ref (ad 1)]).length) Slot.unset).toArray = ls at hl ⊢
  have hl : lv_has ls 4 [(0, .ref (ad 1))] := hl
  clear hE
  unfold f_X5_nextToken at hf
  suffices hgo : ∀ (H : Heap) (locs : List Loc), va_P D vwCl (wd N ad C) H → va_S (Aw N ad s.heap.size) s.heap H locs → W p l e (headSpec wsX5_nextToken rmX5_nextToken).room s m args below meth c H locs 0 0 QQ (F0 m 0 ls []) from hgo s.heap [] hP hS
  clear hS hP
  intro H locs hP hS
  refine lv_aload_n hx hb dX5_nextToken_0 rfl (lv_at hl 0 rfl) ?_
  refine r_get (own := RX5) (T := TX5) (n := 7) (ci := 5) (v := .int tx_te) hx hb hts nX5 hown hK hP (by omega) h1 rfl 6 (by decide) k0 rfl dX5_nextToken_1 ?_
  refine lv_istore_n (lv' := [(1, .int tx_te), (0, .ref (ad 1))]) hx hb dX5_nextToken_4 rfl hl (by decide) rfl (fun ls hl => ?_)
  have key5 : ∀ (ko : Int32 → Option (Int32 × Int32)), (∀ (x2 : Int32) (C : Nat → va_E) (H : Heap) (locs : List Loc) (ls : Array Slot), va_P D vwCl (wd N ad C) H → va_S (Aw N ad s.heap.size) s.heap H locs → (∀ i : Nat, i ≠ 1 → C i = C0 i) → C 1 = .inr (5, [.ref (ad 2), .ref (ad 3), .ref (ad 4), .int tx_len, .int tx_lines, .int tx_ts, .int tx_te]) → C 2 = aI g 200 tx_b → lv_has ls 4 [(0, .ref (ad 1)), (1, .int x2)] → ko x2 = some rr → W p l e (headSpec wsX5_nextToken rmX5_nextToken).room s m args below meth c H locs 0 0 QQ (F0 m 30 ls [])) → ∀ (n : Nat) (x1 : Int32) (C : Nat → va_E) (H : Heap) (locs : List Loc) (ls : Array Slot), va_P D vwCl (wd N ad C) H → va_S (Aw N ad s.heap.size) s.heap H locs → (∀ i : Nat, i ≠ 1 → C i = C0 i) → C 1 = .inr (5, [.ref (ad 2), .ref (ad 3), .ref (ad 4), .int tx_len, .int tx_lines, .int tx_ts, .int tx_te]) → C 2 = aI g 200 tx_b → lv_has ls 4 [(0, .ref (ad 1)), (1, .int x1)] → LX5_nextToken_5 tx_len tx_b ko n x1 = some rr → W p l e (headSpec wsX5_nextToken rmX5_nextToken).room s m args below meth c H locs 0 0 QQ (F0 m 5 ls []) := by
    intro ko hko n
    induction n with
    | zero =>
      intro x1 C H locs ls hP hS hag h1 h2 hl hf
      rw [LX5_nextToken_5_z] at hf
      cases hf
    | succ n ih =>
      intro x1 C H locs ls hP hS hag h1 h2 hl hf
      rw [LX5_nextToken_5_s] at hf
      refine lv_iload_n hx hb dX5_nextToken_5 rfl (lv_at hl 1 rfl) ?_
      refine lv_aload_n hx hb dX5_nextToken_6 rfl (lv_at hl 0 rfl) ?_
      refine r_get (own := RX5) (T := TX5) (n := 7) (ci := 5) (v := .int tx_len) hx hb hts nX5 hown hK hP (by omega) h1 rfl 3 (by decide) k2 rfl dX5_nextToken_7 ?_
      refine lv_icmp_ge (tgt := 30) hx hb dX5_nextToken_10 (by decide) (fun c3 => ?_) (fun c3 => ?_)
      · have hf := it_e c3 hf
        exact hko x1 C H locs ls hP hS hag h1 h2 (lv_sub hl [0, 1] rfl) hf
      · have hf := ie_e c3 hf
        refine lv_aload_n hx hb dX5_nextToken_13 rfl (lv_at hl 0 rfl) ?_
        refine r_get (own := RX5) (T := TX5) (n := 7) (ci := 5) (v := .ref (ad 2)) hx hb hts nX5 hown hK hP (by omega) h1 rfl 0 (by decide) k3 rfl dX5_nextToken_14 ?_
        refine lv_iload_n hx hb dX5_nextToken_17 rfl (lv_at hl 1 rfl) ?_
        obtain ⟨i5, x4, ex4, hf⟩ := ri_e hf
        refine r_iald hx hb hK hP (by omega) h2 i5 dX5_nextToken_18 ex4 ?_
        refine lv_bipush (v := 32) hx hb dX5_nextToken_19 (by decide) ?_
        refine lv_icmp_ne (tgt := 30) hx hb dX5_nextToken_21 (by decide) (fun c6 => ?_) (fun c6 => ?_)
        · have hf := ie_e c6 hf
          exact hko x1 C H locs ls hP hS hag h1 h2 (lv_sub hl [0, 1] rfl) hf
        · have hf := it_e c6 hf
          obtain ⟨x7, ex7, hf⟩ := lt_e hf
          refine lv_iinc (v := x7) (lv' := [(1, .int x7), (0, .ref (ad 1))]) hx hb dX5_nextToken_24 hl (k := 1) rfl (by rw [ex7]; rfl) (by decide) rfl (fun ls hl => ?_)
          refine lv_goto (tgt := 5) hx hb dX5_nextToken_27 (by decide) ?_
          exact ih x7 C H locs ls hP hS hag h1 h2 (lv_sub hl [1, 0] rfl) hf
  refine key5 _ (fun x2 C H locs ls hP hS hag h1 h2 hl hf => ?_) FU tx_te C H locs ls hP hS hag h1 h2 (lv_sub hl [1, 0] rfl) hf
  refine lv_aload_n hx hb dX5_nextToken_30 rfl (lv_at hl 0 rfl) ?_
  refine lv_iload_n hx hb dX5_nextToken_31 rfl (lv_at hl 1 rfl) ?_
  refine r_put (own := RX5) (T := TX5) (n := 7) (ci := 5) (v := .int x2) hx hb hts nX5 tyX5 tyX5_ok nmX5 hown hK hI hAd hP hS (by omega) h1 rfl 5 (by decide) k4 rfl rfl rfl (Nat.le_of_ble_eq_true rfl) dX5_nextToken_32 (fun C H locs hP hS he hn => ?_)
  have hag : ∀ i : Nat, i ≠ 1 → C i = C0 i := fun i h => (he i (by omega)).trans (hag i h)
  have h2 := (he 2 (by decide)).trans h2
  have h1 : C 1 = .inr (5, [.ref (ad 2), .ref (ad 3), .ref (ad 4), .int tx_len, .int tx_lines, .int x2, .int tx_te]) := hn
  refine lv_iload_n hx hb dX5_nextToken_35 rfl (lv_at hl 1 rfl) ?_
  refine lv_aload_n hx hb dX5_nextToken_36 rfl (lv_at hl 0 rfl) ?_
  refine r_get (own := RX5) (T := TX5) (n := 7) (ci := 5) (v := .int tx_len) hx hb hts nX5 hown hK hP (by omega) h1 rfl 3 (by decide) k2 rfl dX5_nextToken_37 ?_
  refine lv_icmp_ge (tgt := 112) hx hb dX5_nextToken_40 (by decide) (fun c8 => ?_) (fun c8 => ?_)
  · have hf := it_e c8 hf
    refine lv_aload_n hx hb dX5_nextToken_112 rfl (lv_at hl 0 rfl) ?_
    refine lv_iload_n hx hb dX5_nextToken_113 rfl (lv_at hl 1 rfl) ?_
    refine r_put (own := RX5) (T := TX5) (n := 7) (ci := 5) (v := .int x2) hx hb hts nX5 tyX5 tyX5_ok nmX5 hown hK hI hAd hP hS (by omega) h1 rfl 6 (by decide) k0 rfl rfl rfl (Nat.le_of_ble_eq_true rfl) dX5_nextToken_114 (fun C H locs hP hS he hn => ?_)
    have hag : ∀ i : Nat, i ≠ 1 → C i = C0 i := fun i h => (he i (by omega)).trans (hag i h)
    have h2 := (he 2 (by decide)).trans h2
    have h1 : C 1 = .inr (5, [.ref (ad 2), .ref (ad 3), .ref (ad 4), .int tx_len, .int tx_lines, .int x2, .int x2]) := hn
    obtain rfl := Option.some.inj hf
    rw [← hQ]
    exact e_vW hx hb hr hP hS ⟨hag, h1⟩ hlocks dX5_nextToken_117
  · have hf := ie_e c8 hf
    refine lv_aload_n hx hb dX5_nextToken_43 rfl (lv_at hl 0 rfl) ?_
    refine r_get (own := RX5) (T := TX5) (n := 7) (ci := 5) (v := .ref (ad 2)) hx hb hts nX5 hown hK hP (by omega) h1 rfl 0 (by decide) k3 rfl dX5_nextToken_44 ?_
    refine lv_iload_n hx hb dX5_nextToken_47 rfl (lv_at hl 1 rfl) ?_
    obtain ⟨i10, x9, ex9, hf⟩ := ri_e hf
    refine r_iald hx hb hK hP (by omega) h2 i10 dX5_nextToken_48 ex9 ?_
    obtain ⟨q11, hq11, hf⟩ := bd_e hf
    refine k_iR (va_runS (As := [.int x9]) (rest := []) ⟨hx, hb, hml, hown, hts⟩ (c_X5_isLetter (l := l) (sz := H.size) (p0 := x9) hq11) (va_cwS 1 hts gX5_nextToken_X5_isLetter rfl rfl rfl (by decide +kernel) ⟨Nat.le_of_ble_eq_true rfl, Nat.le_of_ble_eq_true rfl⟩) preS0 rfl rfl hl.1 rfl (lv_room (Nat.le_of_ble_eq_true rfl)) dX5_nextToken_49 ⟨Nat.le_of_ble_eq_true rfl, Nat.le_of_ble_eq_true rfl⟩) hA hP hS (fun H locs hP hS hbz_q11 => ?_)
    refine lv_istore_n (lv' := [(2, .int q11), (0, .ref (ad 1)), (1, .int x2)]) hx hb dX5_nextToken_52 rfl hl (by decide) rfl (fun ls hl => ?_)
    refine lv_aload_n hx hb dX5_nextToken_53 rfl (lv_at hl 1 rfl) ?_
    refine r_get (own := RX5) (T := TX5) (n := 7) (ci := 5) (v := .ref (ad 2)) hx hb hts nX5 hown hK hP (by omega) h1 rfl 0 (by decide) k3 rfl dX5_nextToken_54 ?_
    refine lv_iload_n hx hb dX5_nextToken_57 rfl (lv_at hl 2 rfl) ?_
    obtain ⟨i13, x12, ex12, hf⟩ := ri_e hf
    refine r_iald hx hb hK hP (by omega) h2 i13 dX5_nextToken_58 ex12 ?_
    obtain ⟨q14, hq14, hf⟩ := bd_e hf
    refine k_iR (va_runS (As := [.int x12]) (rest := []) ⟨hx, hb, hml, hown, hts⟩ (c_X5_isDigit (l := l) (sz := H.size) (p0 := x12) hq14) (va_cwS 1 hts gX5_nextToken_X5_isDigit rfl rfl rfl (by decide +kernel) ⟨Nat.le_of_ble_eq_true rfl, Nat.le_of_ble_eq_true rfl⟩) preS0 rfl rfl hl.1 rfl (lv_room (Nat.le_of_ble_eq_true rfl)) dX5_nextToken_59 ⟨Nat.le_of_ble_eq_true rfl, Nat.le_of_ble_eq_true rfl⟩) hA hP hS (fun H locs hP hS hbz_q14 => ?_)
    refine lv_istore_n (lv' := [(3, .int q14), (2, .int q11), (0, .ref (ad 1)), (1, .int x2)]) hx hb dX5_nextToken_62 rfl hl (by decide) rfl (fun ls hl => ?_)
    obtain ⟨x15, ex15, hf⟩ := lt_e hf
    refine lv_iinc (v := x15) (lv' := [(1, .int x15), (3, .int q14), (2, .int q11), (0, .ref (ad 1))]) hx hb dX5_nextToken_63 hl (k := 3) rfl (by rw [ex15]; rfl) (by decide) rfl (fun ls hl => ?_)
    have key66 : ∀ (ko : Int32 → Option (Int32 × Int32)), (∀ (x17 : Int32) (C : Nat → va_E) (H : Heap) (locs : List Loc) (ls : Array Slot), va_P D vwCl (wd N ad C) H → va_S (Aw N ad s.heap.size) s.heap H locs → (∀ i : Nat, i ≠ 1 → C i = C0 i) → C 1 = .inr (5, [.ref (ad 2), .ref (ad 3), .ref (ad 4), .int tx_len, .int tx_lines, .int x2, .int tx_te]) → C 2 = aI g 200 tx_b → lv_has ls 4 [(0, .ref (ad 1)), (1, .int x17), (2, .int q11), (3, .int q14)] → ko x17 = some rr → W p l e (headSpec wsX5_nextToken rmX5_nextToken).room s m args below meth c H locs 0 0 QQ (F0 m 112 ls [])) → ∀ (n : Nat) (x16 : Int32) (C : Nat → va_E) (H : Heap) (locs : List Loc) (ls : Array Slot), va_P D vwCl (wd N ad C) H → va_S (Aw N ad s.heap.size) s.heap H locs → (∀ i : Nat, i ≠ 1 → C i = C0 i) → C 1 = .inr (5, [.ref (ad 2), .ref (ad 3), .ref (ad 4), .int tx_len, .int tx_lines, .int x2, .int tx_te]) → C 2 = aI g 200 tx_b → lv_has ls 4 [(0, .ref (ad 1)), (1, .int x16), (2, .int q11), (3, .int q14)] → LX5_nextToken_66 tx_len tx_b q11 q14 ko n x16 = some rr → W p l e (headSpec wsX5_nextToken rmX5_nextToken).room s m args below meth c H locs 0 0 QQ (F0 m 66 ls []) := by
      intro ko hko n
      induction n with
      | zero =>
        intro x16 C H locs ls hP hS hag h1 h2 hl hf
        rw [LX5_nextToken_66_z] at hf
        cases hf
      | succ n ih =>
        intro x16 C H locs ls hP hS hag h1 h2 hl hf
        rw [LX5_nextToken_66_s] at hf
        refine lv_iload_n hx hb dX5_nextToken_66 rfl (lv_at hl 1 rfl) ?_
        refine lv_aload_n hx hb dX5_nextToken_67 rfl (lv_at hl 0 rfl) ?_
        refine r_get (own := RX5) (T := TX5) (n := 7) (ci := 5) (v := .int tx_len) hx hb hts nX5 hown hK hP (by omega) h1 rfl 3 (by decide) k2 rfl dX5_nextToken_68 ?_
        refine lv_icmp_ge (tgt := 112) hx hb dX5_nextToken_71 (by decide) (fun c18 => ?_) (fun c18 => ?_)
        · have hf := it_e c18 hf
          exact hko x16 C H locs ls hP hS hag h1 h2 (lv_sub hl [0, 1, 2, 3] rfl) hf
        · have hf := ie_e c18 hf
          refine lv_iload_n hx hb dX5_nextToken_74 rfl (lv_at hl 2 rfl) ?_
          refine lv_if_eq (tgt := 90) hx hb dX5_nextToken_75 (by decide) (fun c19 => ?_) (fun c19 => ?_)
          · have hf := it_e c19 hf
            refine lv_iload_n hx hb dX5_nextToken_90 rfl (lv_at hl 3 rfl) ?_
            refine lv_if_eq (tgt := 112) hx hb dX5_nextToken_91 (by decide) (fun c20 => ?_) (fun c20 => ?_)
            · have hf := it_e c20 hf
              exact hko x16 C H locs ls hP hS hag h1 h2 (lv_sub hl [0, 1, 2, 3] rfl) hf
            · have hf := ie_e c20 hf
              refine lv_aload_n hx hb dX5_nextToken_94 rfl (lv_at hl 0 rfl) ?_
              refine r_get (own := RX5) (T := TX5) (n := 7) (ci := 5) (v := .ref (ad 2)) hx hb hts nX5 hown hK hP (by omega) h1 rfl 0 (by decide) k3 rfl dX5_nextToken_95 ?_
              refine lv_iload_n hx hb dX5_nextToken_98 rfl (lv_at hl 1 rfl) ?_
              obtain ⟨i22, x21, ex21, hf⟩ := ri_e hf
              refine r_iald hx hb hK hP (by omega) h2 i22 dX5_nextToken_99 ex21 ?_
              obtain ⟨q23, hq23, hf⟩ := bd_e hf
              refine k_iR (va_runS (As := [.int x21]) (rest := []) ⟨hx, hb, hml, hown, hts⟩ (c_X5_isDigit (l := l) (sz := H.size) (p0 := x21) hq23) (va_cwS 1 hts gX5_nextToken_X5_isDigit rfl rfl rfl (by decide +kernel) ⟨Nat.le_of_ble_eq_true rfl, Nat.le_of_ble_eq_true rfl⟩) preS0 rfl rfl hl.1 rfl (lv_room (Nat.le_of_ble_eq_true rfl)) dX5_nextToken_100 ⟨Nat.le_of_ble_eq_true rfl, Nat.le_of_ble_eq_true rfl⟩) hA hP hS (fun H locs hP hS hbz_q23 => ?_)
              refine lv_if_eq (tgt := 112) hx hb dX5_nextToken_103 (by decide) (fun c24 => ?_) (fun c24 => ?_)
              · have hf := it_e c24 hf
                exact hko x16 C H locs ls hP hS hag h1 h2 (lv_sub hl [0, 1, 2, 3] rfl) hf
              · have hf := ie_e c24 hf
                obtain ⟨x25, ex25, hf⟩ := lt_e hf
                refine lv_iinc (v := x25) (lv' := [(1, .int x25), (0, .ref (ad 1)), (2, .int q11), (3, .int q14)]) hx hb dX5_nextToken_106 hl (k := 1) rfl (by rw [ex25]; rfl) (by decide) rfl (fun ls hl => ?_)
                refine lv_goto (tgt := 66) hx hb dX5_nextToken_109 (by decide) ?_
                exact ih x25 C H locs ls hP hS hag h1 h2 (lv_sub hl [1, 0, 2, 3] rfl) hf
          · have hf := ie_e c19 hf
            refine lv_aload_n hx hb dX5_nextToken_78 rfl (lv_at hl 0 rfl) ?_
            refine r_get (own := RX5) (T := TX5) (n := 7) (ci := 5) (v := .ref (ad 2)) hx hb hts nX5 hown hK hP (by omega) h1 rfl 0 (by decide) k3 rfl dX5_nextToken_79 ?_
            refine lv_iload_n hx hb dX5_nextToken_82 rfl (lv_at hl 1 rfl) ?_
            obtain ⟨i27, x26, ex26, hf⟩ := ri_e hf
            refine r_iald hx hb hK hP (by omega) h2 i27 dX5_nextToken_83 ex26 ?_
            obtain ⟨q28, hq28, hf⟩ := bd_e hf
            refine k_iR (va_runS (As := [.int x26]) (rest := []) ⟨hx, hb, hml, hown, hts⟩ (c_X5_isLetter (l := l) (sz := H.size) (p0 := x26) hq28) (va_cwS 1 hts gX5_nextToken_X5_isLetter rfl rfl rfl (by decide +kernel) ⟨Nat.le_of_ble_eq_true rfl, Nat.le_of_ble_eq_true rfl⟩) preS0 rfl rfl hl.1 rfl (lv_room (Nat.le_of_ble_eq_true rfl)) dX5_nextToken_84 ⟨Nat.le_of_ble_eq_true rfl, Nat.le_of_ble_eq_true rfl⟩) hA hP hS (fun H locs hP hS hbz_q28 => ?_)
            refine lv_if_ne (tgt := 106) hx hb dX5_nextToken_87 (by decide) (fun c29 => ?_) (fun c29 => ?_)
            · have hf := ie_e c29 hf
              obtain ⟨x30, ex30, hf⟩ := lt_e hf
              refine lv_iinc (v := x30) (lv' := [(1, .int x30), (0, .ref (ad 1)), (2, .int q11), (3, .int q14)]) hx hb dX5_nextToken_106 hl (k := 1) rfl (by rw [ex30]; rfl) (by decide) rfl (fun ls hl => ?_)
              refine lv_goto (tgt := 66) hx hb dX5_nextToken_109 (by decide) ?_
              exact ih x30 C H locs ls hP hS hag h1 h2 (lv_sub hl [1, 0, 2, 3] rfl) hf
            · have hf := it_e c29 hf
              refine lv_iload_n hx hb dX5_nextToken_90 rfl (lv_at hl 3 rfl) ?_
              refine lv_if_eq (tgt := 112) hx hb dX5_nextToken_91 (by decide) (fun c31 => ?_) (fun c31 => ?_)
              · have hf := it_e c31 hf
                exact hko x16 C H locs ls hP hS hag h1 h2 (lv_sub hl [0, 1, 2, 3] rfl) hf
              · have hf := ie_e c31 hf
                refine lv_aload_n hx hb dX5_nextToken_94 rfl (lv_at hl 0 rfl) ?_
                refine r_get (own := RX5) (T := TX5) (n := 7) (ci := 5) (v := .ref (ad 2)) hx hb hts nX5 hown hK hP (by omega) h1 rfl 0 (by decide) k3 rfl dX5_nextToken_95 ?_
                refine lv_iload_n hx hb dX5_nextToken_98 rfl (lv_at hl 1 rfl) ?_
                obtain ⟨i33, x32, ex32, hf⟩ := ri_e hf
                refine r_iald hx hb hK hP (by omega) h2 i33 dX5_nextToken_99 ex32 ?_
                obtain ⟨q34, hq34, hf⟩ := bd_e hf
                refine k_iR (va_runS (As := [.int x32]) (rest := []) ⟨hx, hb, hml, hown, hts⟩ (c_X5_isDigit (l := l) (sz := H.size) (p0 := x32) hq34) (va_cwS 1 hts gX5_nextToken_X5_isDigit rfl rfl rfl (by decide +kernel) ⟨Nat.le_of_ble_eq_true rfl, Nat.le_of_ble_eq_true rfl⟩) preS0 rfl rfl hl.1 rfl (lv_room (Nat.le_of_ble_eq_true rfl)) dX5_nextToken_100 ⟨Nat.le_of_ble_eq_true rfl, Nat.le_of_ble_eq_true rfl⟩) hA hP hS (fun H locs hP hS hbz_q34 => ?_)
                refine lv_if_eq (tgt := 112) hx hb dX5_nextToken_103 (by decide) (fun c35 => ?_) (fun c35 => ?_)
                · have hf := it_e c35 hf
                  exact hko x16 C H locs ls hP hS hag h1 h2 (lv_sub hl [0, 1, 2, 3] rfl) hf
                · have hf := ie_e c35 hf
                  obtain ⟨x36, ex36, hf⟩ := lt_e hf
                  refine lv_iinc (v := x36) (lv' := [(1, .int x36), (0, .ref (ad 1)), (2, .int q11), (3, .int q14)]) hx hb dX5_nextToken_106 hl (k := 1) rfl (by rw [ex36]; rfl) (by decide) rfl (fun ls hl => ?_)
                  refine lv_goto (tgt := 66) hx hb dX5_nextToken_109 (by decide) ?_
                  exact ih x36 C H locs ls hP hS hag h1 h2 (lv_sub hl [1, 0, 2, 3] rfl) hf
    refine key66 _ (fun x17 C H locs ls hP hS hag h1 h2 hl hf => ?_) FU x15 C H locs ls hP hS hag h1 h2 (lv_sub hl [3, 0, 2, 1] rfl) hf
    refine lv_aload_n hx hb dX5_nextToken_112 rfl (lv_at hl 0 rfl) ?_
    refine lv_iload_n hx hb dX5_nextToken_113 rfl (lv_at hl 1 rfl) ?_
    refine r_put (own := RX5) (T := TX5) (n := 7) (ci := 5) (v := .int x17) hx hb hts nX5 tyX5 tyX5_ok nmX5 hown hK hI hAd hP hS (by omega) h1 rfl 6 (by decide) k0 rfl rfl rfl (Nat.le_of_ble_eq_true rfl) dX5_nextToken_114 (fun C H locs hP hS he hn => ?_)
    have hag : ∀ i : Nat, i ≠ 1 → C i = C0 i := fun i h => (he i (by omega)).trans (hag i h)
    have h2 := (he 2 (by decide)).trans h2
    have h1 : C 1 = .inr (5, [.ref (ad 2), .ref (ad 3), .ref (ad 4), .int tx_len, .int tx_lines, .int x2, .int x17]) := hn
    obtain rfl := Option.some.inj hf
    rw [← hQ]
    exact e_vW hx hb hr hP hS ⟨hag, h1⟩ hlocks dX5_nextToken_117

def LX5_tokenIs_20 (p0 : Nat) (tx_ts : Int32) (tx_b : Nat → Int32) (ko : Int32 → Option (Int32)) : Nat → Int32 → Option (Int32)
  | 0, _ => none
  | n + 1, x2 =>
    if (slen p0) ≤ x2 then
      ko x2
    else
      ri tx_b 200 ((tx_ts + x2)) fun x5 =>
      ri (schF p0) (lenS.getD p0 0) (x2) fun x7 =>
      if x5 = x7 then
        lt (x2 + 1 : Int32) fun x10 =>
        LX5_tokenIs_20 p0 tx_ts tx_b ko n x10
      else
        some (0)
theorem LX5_tokenIs_20_z (p0 : Nat) (tx_ts : Int32) (tx_b : Nat → Int32) (ko : Int32 → Option (Int32)) (x2 : Int32) : LX5_tokenIs_20 p0 tx_ts tx_b ko 0 x2 = none := rfl
theorem LX5_tokenIs_20_s (p0 : Nat) (tx_ts : Int32) (tx_b : Nat → Int32) (ko : Int32 → Option (Int32)) (n : Nat) (x2 : Int32) : LX5_tokenIs_20 p0 tx_ts tx_b ko (n + 1) x2 =
    if (slen p0) ≤ x2 then
      ko x2
    else
      ri tx_b 200 ((tx_ts + x2)) fun x5 =>
      ri (schF p0) (lenS.getD p0 0) (x2) fun x7 =>
      if x5 = x7 then
        lt (x2 + 1 : Int32) fun x10 =>
        LX5_tokenIs_20 p0 tx_ts tx_b ko n x10
      else
        some (0) := rfl
def f_X5_tokenIs (p0 : Nat) (tx_ts : Int32) (tx_te : Int32) (tx_b : Nat → Int32) : Option (Int32) :=
  if (tx_te - tx_ts) = (slen p0) then
    LX5_tokenIs_20 p0 tx_ts tx_b (fun x3 =>
      some (1)) FU 0
  else
    some (0)
abbrev rmX5_tokenIs : Room := { frames := 4, cells := 0, slots := 0, locals := 85 }
set_option maxHeartbeats 4000000 in
set_option maxRecDepth 100000 in
theorem c_X5_tokenIs {l : Launch} {adK adV tb : Nat → Nat} {D : va_G} {g : Nat → ClassId} {N : Nat} {ad : Nat → Nat} {C : Nat → va_E} {sz : Nat} {tx_len : Int32} {tx_lines : Int32} {tx_ts : Int32} {tx_te : Int32} {tx_b : Nat → Int32} {p0 : Nat} {rr : Int32} (hN : 86 ≤ N) (hi_p0 : p0 < 8) (h1 : C 1 = .inr (5, [.ref (ad 2), .ref (ad 3), .ref (ad 4), .int tx_len, .int tx_lines, .int tx_ts, .int tx_te])) (h2 : C 2 = aI g 200 tx_b) (hf : f_X5_tokenIs p0 tx_ts tx_te tx_b = some rr) : Met l yX5_tokenIs wsX5_tokenIs rmX5_tokenIs (PcT D g N ad C adK adV tb sz [.ref (ad 1), .ref (adK p0)]) (QiR sz bz rr) 0 0 (An sz) := by
  refine Met.ofW (cc := cX5_tokenIs) (maxL := 3) (ret := (some .boolean)) (by decide) rfl ?_
  intro p e s m args below meth c s₁ B hml hv
  obtain ⟨hav, hsz, hK, hP, hSDw⟩ := hv
  subst hsz
  have hx := B.exec
  have hb := B.bytes
  have hr := B.returns
  have hts := atoms_spec (ws := wsX5_tokenIs) B.pre
  have hown : s.vm.findClass RX5 = some m.cls := findClass_of_methodNamed B.named
  have hlocks := B.notSynchronized
  generalize hQ : MQ below (QiR s.heap.size bz rr) args s 0 0 (An s.heap.size) = QQ
  have hS : va_S (An s.heap.size) s.heap s.heap [] := va_S.rf
  have hA : ∀ q, s.heap.size ≤ q → (An s.heap.size) q := fun q h => h
  have hSD : SD adK adV tb (An s.heap.size) s s.heap := hSDw.narrow (fun q h => Or.inr h)
  have hAB : ∀ q, (An s.heap.size) q → Aw N ad s.heap.size q := fun q h => Or.inr h
  have k0 := hts (.fieldLink RX5 30 "UpDrain$Text" "tokenEnd" "I") (List.mem_of_getElem? (i := 1) rfl)
  have nX5 : ∀ w ∈ u_ws RX5 TX5 7, w ∈ wsX5_tokenIs := fun _ h => List.mem_cons_of_mem _ (List.mem_append_right _ h)
  have k2 := hts (.fieldLink RX5 37 "UpDrain$Text" "tokenStart" "I") (List.mem_of_getElem? (i := 2) rfl)
  have k3 := hts (.fieldLink RX5 11 "UpDrain$Text" "bytes" "[I") (List.mem_of_getElem? (i := 3) rfl)
  have hE := lg_entry_eq m [.ref (ad 1), .ref (adK p0)] 3
  rw [← hav] at hE
  rw [hE]
  have hl := lv_entry [.ref (ad 1), .ref (adK p0)] (n := 3) (Nat.le_of_ble_eq_true rfl)
  generalize (lg_sl [.ref (ad 1), .ref (adK p0)] ++ List.replicate (3 - (lg_sl [.ref (ad 1), .ref (adK p0)]).length) Slot.unset).toArray = ls at hl ⊢
  have hl : lv_has ls 3 [(0, .ref (ad 1)), (1, .ref (adK p0))] := hl
  clear hE
  unfold f_X5_tokenIs at hf
  suffices hgo : ∀ (H : Heap) (locs : List Loc), va_P D vwCl (wd N ad C) H → va_S (An s.heap.size) s.heap H locs → W p l e (headSpec wsX5_tokenIs rmX5_tokenIs).room s m args below meth c H locs 0 0 QQ (F0 m 0 ls []) from hgo s.heap [] hP hS
  clear hS hP
  intro H locs hP hS
  refine lv_aload_n hx hb dX5_tokenIs_0 rfl (lv_at hl 0 rfl) ?_
  refine r_get (own := RX5) (T := TX5) (n := 7) (ci := 5) (v := .int tx_te) hx hb hts nX5 hown hK hP (by omega) h1 rfl 6 (by decide) k0 rfl dX5_tokenIs_1 ?_
  refine lv_aload_n hx hb dX5_tokenIs_4 rfl (lv_at hl 0 rfl) ?_
  refine r_get (own := RX5) (T := TX5) (n := 7) (ci := 5) (v := .int tx_ts) hx hb hts nX5 hown hK hP (by omega) h1 rfl 5 (by decide) k2 rfl dX5_tokenIs_5 ?_
  refine lv_isub hx hb dX5_tokenIs_8 ?_
  refine lv_aload_n hx hb dX5_tokenIs_9 rfl (lv_at hl 1 rfl) ?_
  refine k_iR (va_runV (C := RJ0) (As := []) (rest := [.int (tx_te - tx_ts)]) ⟨hx, hb, hml, hown, hts⟩ (c_J0_length_8abf5 (l := l) (sz := H.size) hi_p0) (cwV 0 hts gX5_tokenIs_J0_length_8abf5 rfl rfl rfl (by decide +kernel) ⟨Nat.le_of_ble_eq_true rfl, Nat.le_of_ble_eq_true rfl⟩) (preJV hSD hS (fun _ h => hA _ (Nat.le_trans hS.1 h)) hi_p0) rfl rfl hl.1 rfl (lv_room (Nat.le_of_ble_eq_true rfl)) dX5_tokenIs_10 ⟨Nat.le_of_ble_eq_true rfl, Nat.le_of_ble_eq_true rfl⟩) hA hP hS (fun H locs hP hS _ => ?_)
  refine lv_icmp_eq (tgt := 18) hx hb dX5_tokenIs_13 (by decide) (fun c1 => ?_) (fun c1 => ?_)
  · have hf := it_e c1 hf
    refine lv_iconst (v := 0) hx hb dX5_tokenIs_18 (by decide) ?_
    refine lv_istore_n (lv' := [(2, .int 0), (0, .ref (ad 1)), (1, .ref (adK p0))]) hx hb dX5_tokenIs_19 rfl hl (by decide) rfl (fun ls hl => ?_)
    have key20 : ∀ (ko : Int32 → Option (Int32)), (∀ (x3 : Int32) (C : Nat → va_E) (H : Heap) (locs : List Loc) (ls : Array Slot), va_P D vwCl (wd N ad C) H → va_S (An s.heap.size) s.heap H locs → C 1 = .inr (5, [.ref (ad 2), .ref (ad 3), .ref (ad 4), .int tx_len, .int tx_lines, .int tx_ts, .int tx_te]) → C 2 = aI g 200 tx_b → lv_has ls 3 [(0, .ref (ad 1)), (1, .ref (adK p0)), (2, .int x3)] → ko x3 = some rr → W p l e (headSpec wsX5_tokenIs rmX5_tokenIs).room s m args below meth c H locs 0 0 QQ (F0 m 55 ls [])) → ∀ (n : Nat) (x2 : Int32) (C : Nat → va_E) (H : Heap) (locs : List Loc) (ls : Array Slot), va_P D vwCl (wd N ad C) H → va_S (An s.heap.size) s.heap H locs → C 1 = .inr (5, [.ref (ad 2), .ref (ad 3), .ref (ad 4), .int tx_len, .int tx_lines, .int tx_ts, .int tx_te]) → C 2 = aI g 200 tx_b → lv_has ls 3 [(0, .ref (ad 1)), (1, .ref (adK p0)), (2, .int x2)] → LX5_tokenIs_20 p0 tx_ts tx_b ko n x2 = some rr → W p l e (headSpec wsX5_tokenIs rmX5_tokenIs).room s m args below meth c H locs 0 0 QQ (F0 m 20 ls []) := by
      intro ko hko n
      induction n with
      | zero =>
        intro x2 C H locs ls hP hS h1 h2 hl hf
        rw [LX5_tokenIs_20_z] at hf
        cases hf
      | succ n ih =>
        intro x2 C H locs ls hP hS h1 h2 hl hf
        rw [LX5_tokenIs_20_s] at hf
        refine lv_iload_n hx hb dX5_tokenIs_20 rfl (lv_at hl 2 rfl) ?_
        refine lv_aload_n hx hb dX5_tokenIs_21 rfl (lv_at hl 1 rfl) ?_
        refine k_iR (va_runV (C := RJ0) (As := []) (rest := [.int x2]) ⟨hx, hb, hml, hown, hts⟩ (c_J0_length_8abf5 (l := l) (sz := H.size) hi_p0) (cwV 0 hts gX5_tokenIs_J0_length_8abf5 rfl rfl rfl (by decide +kernel) ⟨Nat.le_of_ble_eq_true rfl, Nat.le_of_ble_eq_true rfl⟩) (preJV hSD hS (fun _ h => hA _ (Nat.le_trans hS.1 h)) hi_p0) rfl rfl hl.1 rfl (lv_room (Nat.le_of_ble_eq_true rfl)) dX5_tokenIs_22 ⟨Nat.le_of_ble_eq_true rfl, Nat.le_of_ble_eq_true rfl⟩) hA hP hS (fun H locs hP hS _ => ?_)
        refine lv_icmp_ge (tgt := 55) hx hb dX5_tokenIs_25 (by decide) (fun c4 => ?_) (fun c4 => ?_)
        · have hf := it_e c4 hf
          exact hko x2 C H locs ls hP hS h1 h2 (lv_sub hl [0, 1, 2] rfl) hf
        · have hf := ie_e c4 hf
          refine lv_aload_n hx hb dX5_tokenIs_28 rfl (lv_at hl 0 rfl) ?_
          refine r_get (own := RX5) (T := TX5) (n := 7) (ci := 5) (v := .ref (ad 2)) hx hb hts nX5 hown hK hP (by omega) h1 rfl 0 (by decide) k3 rfl dX5_tokenIs_29 ?_
          refine lv_aload_n hx hb dX5_tokenIs_32 rfl (lv_at hl 0 rfl) ?_
          refine r_get (own := RX5) (T := TX5) (n := 7) (ci := 5) (v := .int tx_ts) hx hb hts nX5 hown hK hP (by omega) h1 rfl 5 (by decide) k2 rfl dX5_tokenIs_33 ?_
          refine lv_iload_n hx hb dX5_tokenIs_36 rfl (lv_at hl 2 rfl) ?_
          refine lv_iadd hx hb dX5_tokenIs_37 ?_
          obtain ⟨i6, x5, ex5, hf⟩ := ri_e hf
          refine r_iald hx hb hK hP (by omega) h2 i6 dX5_tokenIs_38 ex5 ?_
          refine lv_aload_n hx hb dX5_tokenIs_39 rfl (lv_at hl 1 rfl) ?_
          refine lv_iload_n hx hb dX5_tokenIs_40 rfl (lv_at hl 2 rfl) ?_
          obtain ⟨i8, x7, ex7, hf⟩ := ri_e hf
          refine k_iR (va_runV (C := RJ0) (As := [.int x2]) (rest := [.int x5]) ⟨hx, hb, hml, hown, hts⟩ (c_J0_charAt_5068e (l := l) (sz := H.size) hi_p0 i8) (cwV 1 hts gX5_tokenIs_J0_charAt_5068e rfl rfl rfl (by decide +kernel) ⟨Nat.le_of_ble_eq_true rfl, Nat.le_of_ble_eq_true rfl⟩) (preJV hSD hS (fun _ h => hA _ (Nat.le_trans hS.1 h)) hi_p0) rfl rfl hl.1 rfl (lv_room (Nat.le_of_ble_eq_true rfl)) dX5_tokenIs_41 ⟨Nat.le_of_ble_eq_true rfl, Nat.le_of_ble_eq_true rfl⟩) hA hP hS (fun H locs hP hS _ => ?_)
          refine tp_i ex7 ?_
          refine lv_icmp_eq (tgt := 49) hx hb dX5_tokenIs_44 (by decide) (fun c9 => ?_) (fun c9 => ?_)
          · have hf := it_e c9 hf
            obtain ⟨x10, ex10, hf⟩ := lt_e hf
            refine lv_iinc (v := x10) (lv' := [(2, .int x10), (0, .ref (ad 1)), (1, .ref (adK p0))]) hx hb dX5_tokenIs_49 hl (k := 2) rfl (by rw [ex10]; rfl) (by decide) rfl (fun ls hl => ?_)
            refine lv_goto (tgt := 20) hx hb dX5_tokenIs_52 (by decide) ?_
            exact ih x10 C H locs ls hP hS h1 h2 (lv_sub hl [1, 2, 0] rfl) hf
          · have hf := ie_e c9 hf
            refine lv_iconst (v := 0) hx hb dX5_tokenIs_47 (by decide) ?_
            obtain rfl := Option.some.inj hf
            rw [← hQ]
            exact e_zR hx hb hr rfl bz0 hS hlocks dX5_tokenIs_48
    refine key20 _ (fun x3 C H locs ls hP hS h1 h2 hl hf => ?_) FU 0 C H locs ls hP hS h1 h2 (lv_sub hl [1, 2, 0] rfl) hf
    refine lv_iconst (v := 1) hx hb dX5_tokenIs_55 (by decide) ?_
    obtain rfl := Option.some.inj hf
    rw [← hQ]
    exact e_zR hx hb hr rfl bz1 hS hlocks dX5_tokenIs_56
  · have hf := ie_e c1 hf
    refine lv_iconst (v := 0) hx hb dX5_tokenIs_16 (by decide) ?_
    obtain rfl := Option.some.inj hf
    rw [← hQ]
    exact e_zR hx hb hr rfl bz0 hS hlocks dX5_tokenIs_17

def LX5_kindOfToken_2 (tx_ts : Int32) (tx_te : Int32) (tx_b : Nat → Int32) (ko : Int32 → Option (Int32)) : Nat → Int32 → Option (Int32)
  | 0, _ => none
  | n + 1, x1 =>
    if 8 ≤ x1 then
      ko x1
    else
      (f_X5_tokenIs (widx x1) tx_ts tx_te tx_b).bind fun q4 =>
      if q4 = 0 then
        lt (x1 + 1 : Int32) fun x6 =>
        LX5_kindOfToken_2 tx_ts tx_te tx_b ko n x6
      else
        some (x1)
theorem LX5_kindOfToken_2_z (tx_ts : Int32) (tx_te : Int32) (tx_b : Nat → Int32) (ko : Int32 → Option (Int32)) (x1 : Int32) : LX5_kindOfToken_2 tx_ts tx_te tx_b ko 0 x1 = none := rfl
theorem LX5_kindOfToken_2_s (tx_ts : Int32) (tx_te : Int32) (tx_b : Nat → Int32) (ko : Int32 → Option (Int32)) (n : Nat) (x1 : Int32) : LX5_kindOfToken_2 tx_ts tx_te tx_b ko (n + 1) x1 =
    if 8 ≤ x1 then
      ko x1
    else
      (f_X5_tokenIs (widx x1) tx_ts tx_te tx_b).bind fun q4 =>
      if q4 = 0 then
        lt (x1 + 1 : Int32) fun x6 =>
        LX5_kindOfToken_2 tx_ts tx_te tx_b ko n x6
      else
        some (x1) := rfl
def f_X5_kindOfToken (tx_ts : Int32) (tx_te : Int32) (tx_b : Nat → Int32) : Option (Int32) :=
  LX5_kindOfToken_2 tx_ts tx_te tx_b (fun x2 =>
    some ((-1))) FU 0
abbrev rmX5_kindOfToken : Room := { frames := 5, cells := 0, slots := 0, locals := 107 }
set_option maxHeartbeats 4000000 in
set_option maxRecDepth 100000 in
theorem c_X5_kindOfToken {l : Launch} {adK adV tb : Nat → Nat} {D : va_G} {g : Nat → ClassId} {N : Nat} {ad : Nat → Nat} {C : Nat → va_E} {sz : Nat} {tx_len : Int32} {tx_lines : Int32} {tx_ts : Int32} {tx_te : Int32} {tx_b : Nat → Int32}  {rr : Int32} (hN : 86 ≤ N) (h1 : C 1 = .inr (5, [.ref (ad 2), .ref (ad 3), .ref (ad 4), .int tx_len, .int tx_lines, .int tx_ts, .int tx_te])) (h2 : C 2 = aI g 200 tx_b) (hf : f_X5_kindOfToken tx_ts tx_te tx_b = some rr) : Met l yX5_kindOfToken wsX5_kindOfToken rmX5_kindOfToken (PcT D g N ad C adK adV tb sz [.ref (ad 1)]) (QiR sz tP rr) 0 0 (An sz) := by
  refine Met.ofW (cc := cX5_kindOfToken) (maxL := 2) (ret := (some .int)) (by decide) rfl ?_
  intro p e s m args below meth c s₁ B hml hv
  obtain ⟨hav, hsz, hK, hP, hSDw⟩ := hv
  subst hsz
  have hx := B.exec
  have hb := B.bytes
  have hr := B.returns
  have hts := atoms_spec (ws := wsX5_kindOfToken) B.pre
  have hown : s.vm.findClass RX5 = some m.cls := findClass_of_methodNamed B.named
  have hlocks := B.notSynchronized
  generalize hQ : MQ below (QiR s.heap.size tP rr) args s 0 0 (An s.heap.size) = QQ
  have hS : va_S (An s.heap.size) s.heap s.heap [] := va_S.rf
  have hA : ∀ q, s.heap.size ≤ q → (An s.heap.size) q := fun q h => h
  have hSD : SD adK adV tb (An s.heap.size) s s.heap := hSDw.narrow (fun q h => Or.inr h)
  have hAB : ∀ q, (An s.heap.size) q → Aw N ad s.heap.size q := fun q h => Or.inr h
  have hE := lg_entry_eq m [.ref (ad 1)] 2
  rw [← hav] at hE
  rw [hE]
  have hl := lv_entry [.ref (ad 1)] (n := 2) (Nat.le_of_ble_eq_true rfl)
  generalize (lg_sl [.ref (ad 1)] ++ List.replicate (2 - (lg_sl [.ref (ad 1)]).length) Slot.unset).toArray = ls at hl ⊢
  have hl : lv_has ls 2 [(0, .ref (ad 1))] := hl
  clear hE
  unfold f_X5_kindOfToken at hf
  suffices hgo : ∀ (H : Heap) (locs : List Loc), va_P D vwCl (wd N ad C) H → va_S (An s.heap.size) s.heap H locs → W p l e (headSpec wsX5_kindOfToken rmX5_kindOfToken).room s m args below meth c H locs 0 0 QQ (F0 m 0 ls []) from hgo s.heap [] hP hS
  clear hS hP
  intro H locs hP hS
  refine lv_iconst (v := 0) hx hb dX5_kindOfToken_0 (by decide) ?_
  refine lv_istore_n (lv' := [(1, .int 0), (0, .ref (ad 1))]) hx hb dX5_kindOfToken_1 rfl hl (by decide) rfl (fun ls hl => ?_)
  have key2 : ∀ (ko : Int32 → Option (Int32)), (∀ (x2 : Int32) (C : Nat → va_E) (H : Heap) (locs : List Loc) (ls : Array Slot), va_P D vwCl (wd N ad C) H → va_S (An s.heap.size) s.heap H locs → C 1 = .inr (5, [.ref (ad 2), .ref (ad 3), .ref (ad 4), .int tx_len, .int tx_lines, .int tx_ts, .int tx_te]) → C 2 = aI g 200 tx_b → lv_has ls 2 [(0, .ref (ad 1)), (1, .int x2)] → ko x2 = some rr → W p l e (headSpec wsX5_kindOfToken rmX5_kindOfToken).room s m args below meth c H locs 0 0 QQ (F0 m 27 ls [])) → ∀ (n : Nat) (x1 : Int32) (C : Nat → va_E) (H : Heap) (locs : List Loc) (ls : Array Slot), va_P D vwCl (wd N ad C) H → va_S (An s.heap.size) s.heap H locs → C 1 = .inr (5, [.ref (ad 2), .ref (ad 3), .ref (ad 4), .int tx_len, .int tx_lines, .int tx_ts, .int tx_te]) → C 2 = aI g 200 tx_b → lv_has ls 2 [(0, .ref (ad 1)), (1, .int x1)] → LX5_kindOfToken_2 tx_ts tx_te tx_b ko n x1 = some rr → W p l e (headSpec wsX5_kindOfToken rmX5_kindOfToken).room s m args below meth c H locs 0 0 QQ (F0 m 2 ls []) := by
    intro ko hko n
    induction n with
    | zero =>
      intro x1 C H locs ls hP hS h1 h2 hl hf
      rw [LX5_kindOfToken_2_z] at hf
      cases hf
    | succ n ih =>
      intro x1 C H locs ls hP hS h1 h2 hl hf
      rw [LX5_kindOfToken_2_s] at hf
      refine lv_iload_n hx hb dX5_kindOfToken_2 rfl (lv_at hl 1 rfl) ?_
      refine lv_bipush (v := 8) hx hb dX5_kindOfToken_3 (by decide) ?_
      refine lv_icmp_ge (tgt := 27) hx hb dX5_kindOfToken_5 (by decide) (fun c3 => ?_) (fun c3 => ?_)
      · have hf := it_e c3 hf
        exact hko x1 C H locs ls hP hS h1 h2 (lv_sub hl [0, 1] rfl) hf
      · have hf := ie_e c3 hf
        refine lv_aload_n hx hb dX5_kindOfToken_8 rfl (lv_at hl 0 rfl) ?_
        refine lv_iload_n hx hb dX5_kindOfToken_9 rfl (lv_at hl 1 rfl) ?_
        refine k_rR (va_runS (As := [.int x1]) (rest := [.ref (ad 1)]) ⟨hx, hb, hml, hown, hts⟩ (c_X5_wordOf (l := l) (adK := adK) (adV := adV) (tb := tb) (sz := H.size) (p0 := x1)) (va_cwS 1 hts gX5_kindOfToken_X5_wordOf rfl rfl rfl (by decide +kernel) ⟨Nat.le_of_ble_eq_true rfl, Nat.le_of_ble_eq_true rfl⟩) (preJS hSD hS (fun _ h => hA _ (Nat.le_trans hS.1 h))) rfl rfl hl.1 rfl (lv_room (Nat.le_of_ble_eq_true rfl)) dX5_kindOfToken_10 ⟨Nat.le_of_ble_eq_true rfl, Nat.le_of_ble_eq_true rfl⟩) hA hP hS (fun H locs hP hS => ?_)
        obtain ⟨q4, hq4, hf⟩ := bd_e hf
        refine k_iR (va_runV (C := RX5) (As := [.ref (adK (widx x1))]) (rest := []) ⟨hx, hb, hml, hown, hts⟩ (c_X5_tokenIs (l := l) (sz := H.size) (p0 := (widx x1)) (adK := adK) (adV := adV) (tb := tb) hN (widx_lt _) h1 h2 hq4) (cwV 1 hts gX5_kindOfToken_X5_tokenIs rfl rfl rfl (by decide +kernel) ⟨Nat.le_of_ble_eq_true rfl, Nat.le_of_ble_eq_true rfl⟩) (preT_of hK hSDw hS hAB hP (by omega) h1 rfl) rfl rfl hl.1 rfl (lv_room (Nat.le_of_ble_eq_true rfl)) dX5_kindOfToken_13 ⟨Nat.le_of_ble_eq_true rfl, Nat.le_of_ble_eq_true rfl⟩) hA hP hS (fun H locs hP hS hbz_q4 => ?_)
        refine lv_if_eq (tgt := 21) hx hb dX5_kindOfToken_16 (by decide) (fun c5 => ?_) (fun c5 => ?_)
        · have hf := it_e c5 hf
          obtain ⟨x6, ex6, hf⟩ := lt_e hf
          refine lv_iinc (v := x6) (lv' := [(1, .int x6), (0, .ref (ad 1))]) hx hb dX5_kindOfToken_21 hl (k := 1) rfl (by rw [ex6]; rfl) (by decide) rfl (fun ls hl => ?_)
          refine lv_goto (tgt := 2) hx hb dX5_kindOfToken_24 (by decide) ?_
          exact ih x6 C H locs ls hP hS h1 h2 (lv_sub hl [1, 0] rfl) hf
        · have hf := ie_e c5 hf
          refine lv_iload_n hx hb dX5_kindOfToken_19 rfl (lv_at hl 1 rfl) ?_
          obtain rfl := Option.some.inj hf
          rw [← hQ]
          exact e_iR hx hb hr rfl (tP_i _) hS hlocks dX5_kindOfToken_20
  refine key2 _ (fun x2 C H locs ls hP hS h1 h2 hl hf => ?_) FU 0 C H locs ls hP hS h1 h2 (lv_sub hl [1, 0] rfl) hf
  refine lv_iconst (v := (-1)) hx hb dX5_kindOfToken_27 (by decide) ?_
  obtain rfl := Option.some.inj hf
  rw [← hQ]
  exact e_iR hx hb hr rfl (tP_i _) hS hlocks dX5_kindOfToken_28

def LX5_numberOfToken_29 (tx_te : Int32) (tx_b : Nat → Int32) (ko : Int32 → Int32 → Option (Int32)) : Nat → Int32 → Int32 → Option (Int32)
  | 0, _, _ => none
  | n + 1, x4, x5 =>
    if tx_te ≤ x5 then
      ko x4 x5
    else
      ri tx_b 200 (x5) fun x9 =>
      (f_X5_isDigit x9).bind fun q11 =>
      if q11 = 0 then
        some ((-1))
      else
        ri tx_b 200 (x5) fun x13 =>
        lt ((((x4 * 10) + x13) - 48) : Int32) fun x15 =>
        lt (x5 + 1 : Int32) fun x16 =>
        LX5_numberOfToken_29 tx_te tx_b ko n x15 x16
theorem LX5_numberOfToken_29_z (tx_te : Int32) (tx_b : Nat → Int32) (ko : Int32 → Int32 → Option (Int32)) (x4 : Int32) (x5 : Int32) : LX5_numberOfToken_29 tx_te tx_b ko 0 x4 x5 = none := rfl
theorem LX5_numberOfToken_29_s (tx_te : Int32) (tx_b : Nat → Int32) (ko : Int32 → Int32 → Option (Int32)) (n : Nat) (x4 : Int32) (x5 : Int32) : LX5_numberOfToken_29 tx_te tx_b ko (n + 1) x4 x5 =
    if tx_te ≤ x5 then
      ko x4 x5
    else
      ri tx_b 200 (x5) fun x9 =>
      (f_X5_isDigit x9).bind fun q11 =>
      if q11 = 0 then
        some ((-1))
      else
        ri tx_b 200 (x5) fun x13 =>
        lt ((((x4 * 10) + x13) - 48) : Int32) fun x15 =>
        lt (x5 + 1 : Int32) fun x16 =>
        LX5_numberOfToken_29 tx_te tx_b ko n x15 x16 := rfl
def f_X5_numberOfToken (tx_ts : Int32) (tx_te : Int32) (tx_b : Nat → Int32) : Option (Int32) :=
  lt ((tx_te - tx_ts) : Int32) fun x1 =>
  if x1 < 1 then
    some ((-1))
  else
    if x1 ≤ 4 then
      LX5_numberOfToken_29 tx_te tx_b (fun x6 x7 =>
        some (x6)) FU 0 tx_ts
    else
      some ((-1))
abbrev rmX5_numberOfToken : Room := { frames := 1, cells := 0, slots := 0, locals := 20 }
set_option maxHeartbeats 4000000 in
set_option maxRecDepth 100000 in
theorem c_X5_numberOfToken {l : Launch} {D : va_G} {g : Nat → ClassId} {N : Nat} {ad : Nat → Nat} {C : Nat → va_E} {sz : Nat} {tx_len : Int32} {tx_lines : Int32} {tx_ts : Int32} {tx_te : Int32} {tx_b : Nat → Int32}  {rr : Int32} (hN : 86 ≤ N) (h1 : C 1 = .inr (5, [.ref (ad 2), .ref (ad 3), .ref (ad 4), .int tx_len, .int tx_lines, .int tx_ts, .int tx_te])) (h2 : C 2 = aI g 200 tx_b) (hf : f_X5_numberOfToken tx_ts tx_te tx_b = some rr) : Met l yX5_numberOfToken wsX5_numberOfToken rmX5_numberOfToken (PcW D g N ad C sz [.ref (ad 1)]) (QiR sz tP rr) 0 0 (An sz) := by
  refine Met.ofW (cc := cX5_numberOfToken) (maxL := 4) (ret := (some .int)) (by decide) rfl ?_
  intro p e s m args below meth c s₁ B hml hv
  obtain ⟨hav, hsz, hK, hP⟩ := hv
  subst hsz
  have hx := B.exec
  have hb := B.bytes
  have hr := B.returns
  have hts := atoms_spec (ws := wsX5_numberOfToken) B.pre
  have hown : s.vm.findClass RX5 = some m.cls := findClass_of_methodNamed B.named
  have hlocks := B.notSynchronized
  generalize hQ : MQ below (QiR s.heap.size tP rr) args s 0 0 (An s.heap.size) = QQ
  have hS : va_S (An s.heap.size) s.heap s.heap [] := va_S.rf
  have hA : ∀ q, s.heap.size ≤ q → (An s.heap.size) q := fun q h => h
  have k0 := hts (.fieldLink RX5 30 "UpDrain$Text" "tokenEnd" "I") (List.mem_of_getElem? (i := 1) rfl)
  have nX5 : ∀ w ∈ u_ws RX5 TX5 7, w ∈ wsX5_numberOfToken := fun _ h => List.mem_cons_of_mem _ (List.mem_append_right _ h)
  have k2 := hts (.fieldLink RX5 37 "UpDrain$Text" "tokenStart" "I") (List.mem_of_getElem? (i := 2) rfl)
  have k3 := hts (.fieldLink RX5 11 "UpDrain$Text" "bytes" "[I") (List.mem_of_getElem? (i := 3) rfl)
  have hE := lg_entry_eq m [.ref (ad 1)] 4
  rw [← hav] at hE
  rw [hE]
  have hl := lv_entry [.ref (ad 1)] (n := 4) (Nat.le_of_ble_eq_true rfl)
  generalize (lg_sl [.ref (ad 1)] ++ List.replicate (4 - (lg_sl [.ref (ad 1)]).length) Slot.unset).toArray = ls at hl ⊢
  have hl : lv_has ls 4 [(0, .ref (ad 1))] := hl
  clear hE
  unfold f_X5_numberOfToken at hf
  suffices hgo : ∀ (H : Heap) (locs : List Loc), va_P D vwCl (wd N ad C) H → va_S (An s.heap.size) s.heap H locs → W p l e (headSpec wsX5_numberOfToken rmX5_numberOfToken).room s m args below meth c H locs 0 0 QQ (F0 m 0 ls []) from hgo s.heap [] hP hS
  clear hS hP
  intro H locs hP hS
  refine lv_aload_n hx hb dX5_numberOfToken_0 rfl (lv_at hl 0 rfl) ?_
  refine r_get (own := RX5) (T := TX5) (n := 7) (ci := 5) (v := .int tx_te) hx hb hts nX5 hown hK hP (by omega) h1 rfl 6 (by decide) k0 rfl dX5_numberOfToken_1 ?_
  refine lv_aload_n hx hb dX5_numberOfToken_4 rfl (lv_at hl 0 rfl) ?_
  refine r_get (own := RX5) (T := TX5) (n := 7) (ci := 5) (v := .int tx_ts) hx hb hts nX5 hown hK hP (by omega) h1 rfl 5 (by decide) k2 rfl dX5_numberOfToken_5 ?_
  refine lv_isub hx hb dX5_numberOfToken_8 ?_
  obtain ⟨x1, ex1, hf⟩ := lt_e hf
  refine tp_i ex1 ?_
  refine lv_istore_n (lv' := [(1, .int x1), (0, .ref (ad 1))]) hx hb dX5_numberOfToken_9 rfl hl (by decide) rfl (fun ls hl => ?_)
  refine lv_iload_n hx hb dX5_numberOfToken_10 rfl (lv_at hl 0 rfl) ?_
  refine lv_iconst (v := 1) hx hb dX5_numberOfToken_11 (by decide) ?_
  refine lv_icmp_lt (tgt := 20) hx hb dX5_numberOfToken_12 (by decide) (fun c2 => ?_) (fun c2 => ?_)
  · have hf := it_e c2 hf
    refine lv_iconst (v := (-1)) hx hb dX5_numberOfToken_20 (by decide) ?_
    obtain rfl := Option.some.inj hf
    rw [← hQ]
    exact e_iR hx hb hr rfl (tP_i _) hS hlocks dX5_numberOfToken_21
  · have hf := ie_e c2 hf
    refine lv_iload_n hx hb dX5_numberOfToken_15 rfl (lv_at hl 0 rfl) ?_
    refine lv_iconst (v := 4) hx hb dX5_numberOfToken_16 (by decide) ?_
    refine lv_icmp_le (tgt := 22) hx hb dX5_numberOfToken_17 (by decide) (fun c3 => ?_) (fun c3 => ?_)
    · have hf := it_e c3 hf
      refine lv_iconst (v := 0) hx hb dX5_numberOfToken_22 (by decide) ?_
      refine lv_istore_n (lv' := [(2, .int 0), (1, .int x1), (0, .ref (ad 1))]) hx hb dX5_numberOfToken_23 rfl hl (by decide) rfl (fun ls hl => ?_)
      refine lv_aload_n hx hb dX5_numberOfToken_24 rfl (lv_at hl 2 rfl) ?_
      refine r_get (own := RX5) (T := TX5) (n := 7) (ci := 5) (v := .int tx_ts) hx hb hts nX5 hown hK hP (by omega) h1 rfl 5 (by decide) k2 rfl dX5_numberOfToken_25 ?_
      refine lv_istore_n (lv' := [(3, .int tx_ts), (2, .int 0), (1, .int x1), (0, .ref (ad 1))]) hx hb dX5_numberOfToken_28 rfl hl (by decide) rfl (fun ls hl => ?_)
      have key29 : ∀ (ko : Int32 → Int32 → Option (Int32)), (∀ (x6 : Int32) (x7 : Int32) (C : Nat → va_E) (H : Heap) (locs : List Loc) (ls : Array Slot), va_P D vwCl (wd N ad C) H → va_S (An s.heap.size) s.heap H locs → C 1 = .inr (5, [.ref (ad 2), .ref (ad 3), .ref (ad 4), .int tx_len, .int tx_lines, .int tx_ts, .int tx_te]) → C 2 = aI g 200 tx_b → lv_has ls 4 [(0, .ref (ad 1)), (1, .int x1), (2, .int x6), (3, .int x7)] → ko x6 x7 = some rr → W p l e (headSpec wsX5_numberOfToken rmX5_numberOfToken).room s m args below meth c H locs 0 0 QQ (F0 m 72 ls [])) → ∀ (n : Nat) (x4 : Int32) (x5 : Int32) (C : Nat → va_E) (H : Heap) (locs : List Loc) (ls : Array Slot), va_P D vwCl (wd N ad C) H → va_S (An s.heap.size) s.heap H locs → C 1 = .inr (5, [.ref (ad 2), .ref (ad 3), .ref (ad 4), .int tx_len, .int tx_lines, .int tx_ts, .int tx_te]) → C 2 = aI g 200 tx_b → lv_has ls 4 [(0, .ref (ad 1)), (1, .int x1), (2, .int x4), (3, .int x5)] → LX5_numberOfToken_29 tx_te tx_b ko n x4 x5 = some rr → W p l e (headSpec wsX5_numberOfToken rmX5_numberOfToken).room s m args below meth c H locs 0 0 QQ (F0 m 29 ls []) := by
        intro ko hko n
        induction n with
        | zero =>
          intro x4 x5 C H locs ls hP hS h1 h2 hl hf
          rw [LX5_numberOfToken_29_z] at hf
          cases hf
        | succ n ih =>
          intro x4 x5 C H locs ls hP hS h1 h2 hl hf
          rw [LX5_numberOfToken_29_s] at hf
          refine lv_iload_n hx hb dX5_numberOfToken_29 rfl (lv_at hl 3 rfl) ?_
          refine lv_aload_n hx hb dX5_numberOfToken_30 rfl (lv_at hl 0 rfl) ?_
          refine r_get (own := RX5) (T := TX5) (n := 7) (ci := 5) (v := .int tx_te) hx hb hts nX5 hown hK hP (by omega) h1 rfl 6 (by decide) k0 rfl dX5_numberOfToken_31 ?_
          refine lv_icmp_ge (tgt := 72) hx hb dX5_numberOfToken_34 (by decide) (fun c8 => ?_) (fun c8 => ?_)
          · have hf := it_e c8 hf
            exact hko x4 x5 C H locs ls hP hS h1 h2 (lv_sub hl [0, 1, 2, 3] rfl) hf
          · have hf := ie_e c8 hf
            refine lv_aload_n hx hb dX5_numberOfToken_37 rfl (lv_at hl 0 rfl) ?_
            refine r_get (own := RX5) (T := TX5) (n := 7) (ci := 5) (v := .ref (ad 2)) hx hb hts nX5 hown hK hP (by omega) h1 rfl 0 (by decide) k3 rfl dX5_numberOfToken_38 ?_
            refine lv_iload_n hx hb dX5_numberOfToken_41 rfl (lv_at hl 3 rfl) ?_
            obtain ⟨i10, x9, ex9, hf⟩ := ri_e hf
            refine r_iald hx hb hK hP (by omega) h2 i10 dX5_numberOfToken_42 ex9 ?_
            obtain ⟨q11, hq11, hf⟩ := bd_e hf
            refine k_iR (va_runS (As := [.int x9]) (rest := []) ⟨hx, hb, hml, hown, hts⟩ (c_X5_isDigit (l := l) (sz := H.size) (p0 := x9) hq11) (va_cwS 1 hts gX5_numberOfToken_X5_isDigit rfl rfl rfl (by decide +kernel) ⟨Nat.le_of_ble_eq_true rfl, Nat.le_of_ble_eq_true rfl⟩) preS0 rfl rfl hl.1 rfl (lv_room (Nat.le_of_ble_eq_true rfl)) dX5_numberOfToken_43 ⟨Nat.le_of_ble_eq_true rfl, Nat.le_of_ble_eq_true rfl⟩) hA hP hS (fun H locs hP hS hbz_q11 => ?_)
            refine lv_if_ne (tgt := 51) hx hb dX5_numberOfToken_46 (by decide) (fun c12 => ?_) (fun c12 => ?_)
            · have hf := ie_e c12 hf
              refine lv_iload_n hx hb dX5_numberOfToken_51 rfl (lv_at hl 2 rfl) ?_
              refine lv_bipush (v := 10) hx hb dX5_numberOfToken_52 (by decide) ?_
              refine lv_imul hx hb dX5_numberOfToken_54 ?_
              refine lv_aload_n hx hb dX5_numberOfToken_55 rfl (lv_at hl 0 rfl) ?_
              refine r_get (own := RX5) (T := TX5) (n := 7) (ci := 5) (v := .ref (ad 2)) hx hb hts nX5 hown hK hP (by omega) h1 rfl 0 (by decide) k3 rfl dX5_numberOfToken_56 ?_
              refine lv_iload_n hx hb dX5_numberOfToken_59 rfl (lv_at hl 3 rfl) ?_
              obtain ⟨i14, x13, ex13, hf⟩ := ri_e hf
              refine r_iald hx hb hK hP (by omega) h2 i14 dX5_numberOfToken_60 ex13 ?_
              refine lv_iadd hx hb dX5_numberOfToken_61 ?_
              refine lv_bipush (v := 48) hx hb dX5_numberOfToken_62 (by decide) ?_
              refine lv_isub hx hb dX5_numberOfToken_64 ?_
              obtain ⟨x15, ex15, hf⟩ := lt_e hf
              refine tp_i ex15 ?_
              refine lv_istore_n (lv' := [(2, .int x15), (0, .ref (ad 1)), (1, .int x1), (3, .int x5)]) hx hb dX5_numberOfToken_65 rfl hl (by decide) rfl (fun ls hl => ?_)
              obtain ⟨x16, ex16, hf⟩ := lt_e hf
              refine lv_iinc (v := x16) (lv' := [(3, .int x16), (2, .int x15), (0, .ref (ad 1)), (1, .int x1)]) hx hb dX5_numberOfToken_66 hl (k := 3) rfl (by rw [ex16]; rfl) (by decide) rfl (fun ls hl => ?_)
              refine lv_goto (tgt := 29) hx hb dX5_numberOfToken_69 (by decide) ?_
              exact ih x15 x16 C H locs ls hP hS h1 h2 (lv_sub hl [2, 3, 1, 0] rfl) hf
            · have hf := it_e c12 hf
              refine lv_iconst (v := (-1)) hx hb dX5_numberOfToken_49 (by decide) ?_
              obtain rfl := Option.some.inj hf
              rw [← hQ]
              exact e_iR hx hb hr rfl (tP_i _) hS hlocks dX5_numberOfToken_50
      refine key29 _ (fun x6 x7 C H locs ls hP hS h1 h2 hl hf => ?_) FU 0 tx_ts C H locs ls hP hS h1 h2 (lv_sub hl [3, 2, 1, 0] rfl) hf
      refine lv_iload_n hx hb dX5_numberOfToken_72 rfl (lv_at hl 2 rfl) ?_
      obtain rfl := Option.some.inj hf
      rw [← hQ]
      exact e_iR hx hb hr rfl (tP_i _) hS hlocks dX5_numberOfToken_73
    · have hf := ie_e c3 hf
      refine lv_iconst (v := (-1)) hx hb dX5_numberOfToken_20 (by decide) ?_
      obtain rfl := Option.some.inj hf
      rw [← hQ]
      exact e_iR hx hb hr rfl (tP_i _) hS hlocks dX5_numberOfToken_21

def LX5_readLine_45 (tx_len : Int32) (tx_b : Nat → Int32) (q2 : Int32) (f4 : Nat → Int32) (x6 : Int32) (x11 : Int32) (ko : Int32 → (Nat → Int32) → Int32 → Int32 → Option (Int32 × Int32 × Int32 × (Nat → Int32) × (Nat → Int32))) : Nat → Int32 → (Nat → Int32) → Int32 → Int32 → Option (Int32 × Int32 × Int32 × (Nat → Int32) × (Nat → Int32))
  | 0, _, _, _, _ => none
  | n + 1, x12, f13, x14, x15 =>
    if x11 ≤ x12 then
      ko x12 f13 x14 x15
    else
      (f_X5_nextToken tx_len x15 x14 tx_b).bind fun q21 =>
      (f_X5_numberOfToken q21.1 q21.2 tx_b).bind fun q22 =>
      (if q2 = 3 then
        if x12 = 2 then
          ri f13 45 ((x6 + 1)) fun x52 =>
          some (x52)
        else
          ri boundF 9 (q2) fun x48 =>
          ri leastF 21 ((x48 + x12)) fun x50 =>
          some (x50)
      else
        ri boundF 9 (q2) fun x43 =>
        ri leastF 21 ((x43 + x12)) fun x45 =>
        some (x45) : Option (Int32)).bind fun q23 =>
      (if q2 = 0 then
        if x12 = 1 then
          ri f13 45 (x6) fun x40 =>
          some ((x40 - 1))
        else
          ri boundF 9 (q2) fun x36 =>
          ri mostF 21 ((x36 + x12)) fun x38 =>
          some (x38)
      else
        ri boundF 9 (q2) fun x31 =>
        ri mostF 21 ((x31 + x12)) fun x33 =>
        some (x33) : Option (Int32)).bind fun q24 =>
      if q22 < q23 then
        some (0, q21.1, q21.2, f4, f13)
      else
        if q22 ≤ q24 then
          wi f13 45 ((x6 + x12)) (q22) fun f27 =>
          lt (x12 + 1 : Int32) fun x29 =>
          LX5_readLine_45 tx_len tx_b q2 f4 x6 x11 ko n x29 f27 q21.2 q21.1
        else
          some (0, q21.1, q21.2, f4, f13)
theorem LX5_readLine_45_z (tx_len : Int32) (tx_b : Nat → Int32) (q2 : Int32) (f4 : Nat → Int32) (x6 : Int32) (x11 : Int32) (ko : Int32 → (Nat → Int32) → Int32 → Int32 → Option (Int32 × Int32 × Int32 × (Nat → Int32) × (Nat → Int32))) (x12 : Int32) (f13 : Nat → Int32) (x14 : Int32) (x15 : Int32) : LX5_readLine_45 tx_len tx_b q2 f4 x6 x11 ko 0 x12 f13 x14 x15 = none := rfl
theorem LX5_readLine_45_s (tx_len : Int32) (tx_b : Nat → Int32) (q2 : Int32) (f4 : Nat → Int32) (x6 : Int32) (x11 : Int32) (ko : Int32 → (Nat → Int32) → Int32 → Int32 → Option (Int32 × Int32 × Int32 × (Nat → Int32) × (Nat → Int32))) (n : Nat) (x12 : Int32) (f13 : Nat → Int32) (x14 : Int32) (x15 : Int32) : LX5_readLine_45 tx_len tx_b q2 f4 x6 x11 ko (n + 1) x12 f13 x14 x15 =
    if x11 ≤ x12 then
      ko x12 f13 x14 x15
    else
      (f_X5_nextToken tx_len x15 x14 tx_b).bind fun q21 =>
      (f_X5_numberOfToken q21.1 q21.2 tx_b).bind fun q22 =>
      (if q2 = 3 then
        if x12 = 2 then
          ri f13 45 ((x6 + 1)) fun x52 =>
          some (x52)
        else
          ri boundF 9 (q2) fun x48 =>
          ri leastF 21 ((x48 + x12)) fun x50 =>
          some (x50)
      else
        ri boundF 9 (q2) fun x43 =>
        ri leastF 21 ((x43 + x12)) fun x45 =>
        some (x45) : Option (Int32)).bind fun q23 =>
      (if q2 = 0 then
        if x12 = 1 then
          ri f13 45 (x6) fun x40 =>
          some ((x40 - 1))
        else
          ri boundF 9 (q2) fun x36 =>
          ri mostF 21 ((x36 + x12)) fun x38 =>
          some (x38)
      else
        ri boundF 9 (q2) fun x31 =>
        ri mostF 21 ((x31 + x12)) fun x33 =>
        some (x33) : Option (Int32)).bind fun q24 =>
      if q22 < q23 then
        some (0, q21.1, q21.2, f4, f13)
      else
        if q22 ≤ q24 then
          wi f13 45 ((x6 + x12)) (q22) fun f27 =>
          lt (x12 + 1 : Int32) fun x29 =>
          LX5_readLine_45 tx_len tx_b q2 f4 x6 x11 ko n x29 f27 q21.2 q21.1
        else
          some (0, q21.1, q21.2, f4, f13) := rfl
def f_X5_readLine (p0 : Int32) (tx_len : Int32) (tx_ts : Int32) (tx_te : Int32) (tx_b : Nat → Int32) (tx_k : Nat → Int32) (tx_n : Nat → Int32) : Option (Int32 × Int32 × Int32 × (Nat → Int32) × (Nat → Int32)) :=
  (f_X5_nextToken tx_len tx_ts tx_te tx_b).bind fun q1 =>
  (f_X5_kindOfToken q1.1 q1.2 tx_b).bind fun q2 =>
  if q2 = (-1) then
    some (0, q1.1, q1.2, tx_k, tx_n)
  else
    wi tx_k 9 (p0) (q2) fun f4 =>
    lt ((p0 * 5) : Int32) fun x6 =>
    ri boundF 9 ((q2 + 1)) fun x7 =>
    ri boundF 9 (q2) fun x9 =>
    lt ((x7 - x9) : Int32) fun x11 =>
    LX5_readLine_45 tx_len tx_b q2 f4 x6 x11 (fun x16 f17 x18 x19 =>
      some (1, x19, x18, f4, f17)) FU 0 tx_n q1.2 q1.1
abbrev rmX5_readLine : Room := { frames := 6, cells := 0, slots := 0, locals := 128 }
set_option maxHeartbeats 4000000 in
set_option maxRecDepth 100000 in
theorem c_X5_readLine {l : Launch} {adK adV tb : Nat → Nat} {D : va_G} {g : Nat → ClassId} {N : Nat} {ad : Nat → Nat} {C : Nat → va_E} {sz : Nat} {tx_len : Int32} {tx_lines : Int32} {tx_ts : Int32} {tx_te : Int32} {tx_b : Nat → Int32} {tx_k : Nat → Int32} {tx_n : Nat → Int32} {p0 : Int32} {rr : Int32 × Int32 × Int32 × (Nat → Int32) × (Nat → Int32)} (hN : 86 ≤ N) (hI : Inj N ad) (h1 : C 1 = .inr (5, [.ref (ad 2), .ref (ad 3), .ref (ad 4), .int tx_len, .int tx_lines, .int tx_ts, .int tx_te])) (h2 : C 2 = aI g 200 tx_b) (h3 : C 3 = aI g 9 tx_k) (h4 : C 4 = aI g 45 tx_n) (hf : f_X5_readLine p0 tx_len tx_ts tx_te tx_b tx_k tx_n = some rr) : Met l yX5_readLine wsX5_readLine rmX5_readLine (PcT D g N ad C adK adV tb sz [.ref (ad 1), .int p0]) (QiW D N ad sz bz rr.1 (fun C' => (∀ i : Nat, i ≠ 1 ∧ i ≠ 3 ∧ i ≠ 4 → C' i = C i) ∧ (C' 1 = .inr (5, [.ref (ad 2), .ref (ad 3), .ref (ad 4), .int tx_len, .int tx_lines, .int rr.2.1, .int rr.2.2.1])) ∧ (C' 3 = aI g 9 rr.2.2.2.1) ∧ (C' 4 = aI g 45 rr.2.2.2.2))) 0 0 (Aw N ad sz) := by
  refine Met.ofW (cc := cX5_readLine) (maxL := 9) (ret := (some .boolean)) (by decide) rfl ?_
  intro p e s m args below meth c s₁ B hml hv
  obtain ⟨hav, hsz, hK, hP, hSDw⟩ := hv
  subst hsz
  have hx := B.exec
  have hb := B.bytes
  have hr := B.returns
  have hts := atoms_spec (ws := wsX5_readLine) B.pre
  have hown : s.vm.findClass RX5 = some m.cls := findClass_of_methodNamed B.named
  have hlocks := B.notSynchronized
  generalize hQ : MQ below (QiW D N ad s.heap.size bz rr.1 (fun C' => (∀ i : Nat, i ≠ 1 ∧ i ≠ 3 ∧ i ≠ 4 → C' i = C i) ∧ (C' 1 = .inr (5, [.ref (ad 2), .ref (ad 3), .ref (ad 4), .int tx_len, .int tx_lines, .int rr.2.1, .int rr.2.2.1])) ∧ (C' 3 = aI g 9 rr.2.2.2.1) ∧ (C' 4 = aI g 45 rr.2.2.2.2))) args s 0 0 (Aw N ad s.heap.size) = QQ
  have hS : va_S (Aw N ad s.heap.size) s.heap s.heap [] := va_S.rf
  have hA : ∀ q, s.heap.size ≤ q → (Aw N ad s.heap.size) q := fun q h => Or.inr h
  have hSD : SD adK adV tb (Aw N ad s.heap.size) s s.heap := hSDw
  have hAB : ∀ q, (Aw N ad s.heap.size) q → Aw N ad s.heap.size q := fun q h => h
  have hAd : ∀ j : Nat, j < N → (Aw N ad s.heap.size) (ad j) := fun j h => Or.inl ⟨j, h, rfl⟩
  obtain ⟨C0, hC0⟩ : ∃ C0 : Nat → va_E, C0 = C := ⟨_, rfl⟩
  have hag : ∀ i : Nat, i ≠ 1 ∧ i ≠ 3 ∧ i ≠ 4 → C i = C0 i := fun i _ => by rw [hC0]
  rw [← hC0] at hQ
  have k0 := hts (.fieldLink RX5 15 "UpDrain$Text" "kinds" "[I") (List.mem_of_getElem? (i := 1) rfl)
  have nX5 : ∀ w ∈ u_ws RX5 TX5 7, w ∈ wsX5_readLine := fun _ h => List.mem_cons_of_mem _ (List.mem_append_right _ h)
  have k2 := hts (.fieldLink RX5 47 "UpDrain$Text" "BOUND" "[I") (List.mem_of_getElem? (i := 2) rfl)
  have k3 := hts (.fieldLink RX5 53 "UpDrain$Text" "LEAST" "[I") (List.mem_of_getElem? (i := 4) rfl)
  have k4 := hts (.fieldLink RX5 18 "UpDrain$Text" "numbers" "[I") (List.mem_of_getElem? (i := 3) rfl)
  have k5 := hts (.fieldLink RX5 56 "UpDrain$Text" "MOST" "[I") (List.mem_of_getElem? (i := 5) rfl)
  have hE := lg_entry_eq m [.ref (ad 1), .int p0] 9
  rw [← hav] at hE
  rw [hE]
  have hl := lv_entry [.ref (ad 1), .int p0] (n := 9) (Nat.le_of_ble_eq_true rfl)
  generalize (lg_sl [.ref (ad 1), .int p0] ++ List.replicate (9 - (lg_sl [.ref (ad 1), .int p0]).length) Slot.unset).toArray = ls at hl ⊢
  have hl : lv_has ls 9 [(0, .ref (ad 1)), (1, .int p0)] := hl
  clear hE
  unfold f_X5_readLine at hf
  suffices hgo : ∀ (H : Heap) (locs : List Loc), va_P D vwCl (wd N ad C) H → va_S (Aw N ad s.heap.size) s.heap H locs → W p l e (headSpec wsX5_readLine rmX5_readLine).room s m args below meth c H locs 0 0 QQ (F0 m 0 ls []) from hgo s.heap [] hP hS
  clear hS hP
  intro H locs hP hS
  refine lv_aload_n hx hb dX5_readLine_0 rfl (lv_at hl 0 rfl) ?_
  obtain ⟨q1, hq1, hf⟩ := bd_e hf
  refine k_vW (va_runV (C := RX5) (As := []) (rest := []) ⟨hx, hb, hml, hown, hts⟩ (c_X5_nextToken (l := l) (sz := H.size)  hN hI h1 h2 hq1) (cwV 0 hts gX5_readLine_X5_nextToken rfl rfl rfl (by decide +kernel) ⟨Nat.le_of_ble_eq_true rfl, Nat.le_of_ble_eq_true rfl⟩) (preV_of hK hP (by omega) h1 rfl) rfl rfl hl.1 rfl (lv_room (Nat.le_of_ble_eq_true rfl)) dX5_readLine_1 ⟨Nat.le_of_ble_eq_true rfl, Nat.le_of_ble_eq_true rfl⟩) hA hAd hS (fun C H locs hP hS hpo => ?_)
  obtain ⟨he, h1⟩ := hpo
  have hag : ∀ i : Nat, i ≠ 1 ∧ i ≠ 3 ∧ i ≠ 4 → C i = C0 i := fun i h => (he i (by omega)).trans (hag i h)
  have h2 := (he 2 (by decide)).trans h2
  have h3 := (he 3 (by decide)).trans h3
  have h4 := (he 4 (by decide)).trans h4
  refine lv_aload_n hx hb dX5_readLine_4 rfl (lv_at hl 0 rfl) ?_
  obtain ⟨q2, hq2, hf⟩ := bd_e hf
  refine k_iR (va_runV (C := RX5) (As := []) (rest := []) ⟨hx, hb, hml, hown, hts⟩ (c_X5_kindOfToken (l := l) (sz := H.size) (adK := adK) (adV := adV) (tb := tb) hN h1 h2 hq2) (cwV 0 hts gX5_readLine_X5_kindOfToken rfl rfl rfl (by decide +kernel) ⟨Nat.le_of_ble_eq_true rfl, Nat.le_of_ble_eq_true rfl⟩) (preT_of hK hSDw hS hAB hP (by omega) h1 rfl) rfl rfl hl.1 rfl (lv_room (Nat.le_of_ble_eq_true rfl)) dX5_readLine_5 ⟨Nat.le_of_ble_eq_true rfl, Nat.le_of_ble_eq_true rfl⟩) hA hP hS (fun H locs hP hS hbz_q2 => ?_)
  refine lv_istore_n (lv' := [(2, .int q2), (0, .ref (ad 1)), (1, .int p0)]) hx hb dX5_readLine_8 rfl hl (by decide) rfl (fun ls hl => ?_)
  refine lv_iload_n hx hb dX5_readLine_9 rfl (lv_at hl 0 rfl) ?_
  refine lv_iconst (v := (-1)) hx hb dX5_readLine_10 (by decide) ?_
  refine lv_icmp_ne (tgt := 16) hx hb dX5_readLine_11 (by decide) (fun c3 => ?_) (fun c3 => ?_)
  · have hf := ie_e c3 hf
    refine lv_aload_n hx hb dX5_readLine_16 rfl (lv_at hl 1 rfl) ?_
    refine r_get (own := RX5) (T := TX5) (n := 7) (ci := 5) (v := .ref (ad 3)) hx hb hts nX5 hown hK hP (by omega) h1 rfl 1 (by decide) k0 rfl dX5_readLine_17 ?_
    refine lv_iload_n hx hb dX5_readLine_20 rfl (lv_at hl 2 rfl) ?_
    refine lv_iload_n hx hb dX5_readLine_21 rfl (lv_at hl 0 rfl) ?_
    obtain ⟨i5, f4, ef4, hf⟩ := wi_e hf
    refine r_iast hx hb hK hI hAd hP hS (by omega) h3 i5 dX5_readLine_22 ef4 (fun C H locs hP hS he hn => ?_)
    have hag : ∀ i : Nat, i ≠ 1 ∧ i ≠ 3 ∧ i ≠ 4 → C i = C0 i := fun i h => (he i (by omega)).trans (hag i h)
    have h1 := (he 1 (by decide)).trans h1
    have h2 := (he 2 (by decide)).trans h2
    have h4 := (he 4 (by decide)).trans h4
    have h3 : C 3 = aI g 9 f4 := hn
    refine lv_iload_n hx hb dX5_readLine_23 rfl (lv_at hl 2 rfl) ?_
    refine lv_iconst (v := 5) hx hb dX5_readLine_24 (by decide) ?_
    refine lv_imul hx hb dX5_readLine_25 ?_
    obtain ⟨x6, ex6, hf⟩ := lt_e hf
    refine tp_i ex6 ?_
    refine lv_istore_n (lv' := [(3, .int x6), (2, .int q2), (0, .ref (ad 1)), (1, .int p0)]) hx hb dX5_readLine_26 rfl hl (by decide) rfl (fun ls hl => ?_)
    refine va_gets (own := RX5) hx hb hSD.2.2.2.2.1.1 hS hown k2 (fun _ h => h) dX5_readLine_27 ?_
    refine lv_iload_n hx hb dX5_readLine_30 rfl (lv_at hl 1 rfl) ?_
    refine lv_iconst (v := 1) hx hb dX5_readLine_31 (by decide) ?_
    refine lv_iadd hx hb dX5_readLine_32 ?_
    obtain ⟨i8, x7, ex7, hf⟩ := ri_e hf
    refine va_ti (v := .int x7) hx hb hSD.2.2.2.2.1.2 hS i8 (by rw [ex7]) dX5_readLine_33 ?_
    refine va_gets (own := RX5) hx hb hSD.2.2.2.2.1.1 hS hown k2 (fun _ h => h) dX5_readLine_34 ?_
    refine lv_iload_n hx hb dX5_readLine_37 rfl (lv_at hl 1 rfl) ?_
    obtain ⟨i10, x9, ex9, hf⟩ := ri_e hf
    refine va_ti (v := .int x9) hx hb hSD.2.2.2.2.1.2 hS i10 (by rw [ex9]) dX5_readLine_38 ?_
    refine lv_isub hx hb dX5_readLine_39 ?_
    obtain ⟨x11, ex11, hf⟩ := lt_e hf
    refine tp_i ex11 ?_
    refine lv_istore (lv' := [(4, .int x11), (3, .int x6), (2, .int q2), (0, .ref (ad 1)), (1, .int p0)]) hx hb dX5_readLine_40 hl (by decide) rfl (fun ls hl => ?_)
    refine lv_iconst (v := 0) hx hb dX5_readLine_42 (by decide) ?_
    refine lv_istore (lv' := [(5, .int 0), (4, .int x11), (3, .int x6), (2, .int q2), (0, .ref (ad 1)), (1, .int p0)]) hx hb dX5_readLine_43 hl (by decide) rfl (fun ls hl => ?_)
    have key45 : ∀ (ko : Int32 → (Nat → Int32) → Int32 → Int32 → Option (Int32 × Int32 × Int32 × (Nat → Int32) × (Nat → Int32))), (∀ (x16 : Int32) (f17 : Nat → Int32) (x18 : Int32) (x19 : Int32) (C : Nat → va_E) (H : Heap) (locs : List Loc) (ls : Array Slot), va_P D vwCl (wd N ad C) H → va_S (Aw N ad s.heap.size) s.heap H locs → (∀ i : Nat, i ≠ 1 ∧ i ≠ 3 ∧ i ≠ 4 → C i = C0 i) → C 1 = .inr (5, [.ref (ad 2), .ref (ad 3), .ref (ad 4), .int tx_len, .int tx_lines, .int x19, .int x18]) → C 2 = aI g 200 tx_b → C 3 = aI g 9 f4 → C 4 = aI g 45 f17 → lv_has ls 9 [(0, .ref (ad 1)), (1, .int p0), (2, .int q2), (3, .int x6), (4, .int x11), (5, .int x16)] → ko x16 f17 x18 x19 = some rr → W p l e (headSpec wsX5_readLine rmX5_readLine).room s m args below meth c H locs 0 0 QQ (F0 m 166 ls [])) → ∀ (n : Nat) (x12 : Int32) (f13 : Nat → Int32) (x14 : Int32) (x15 : Int32) (C : Nat → va_E) (H : Heap) (locs : List Loc) (ls : Array Slot), va_P D vwCl (wd N ad C) H → va_S (Aw N ad s.heap.size) s.heap H locs → (∀ i : Nat, i ≠ 1 ∧ i ≠ 3 ∧ i ≠ 4 → C i = C0 i) → C 1 = .inr (5, [.ref (ad 2), .ref (ad 3), .ref (ad 4), .int tx_len, .int tx_lines, .int x15, .int x14]) → C 2 = aI g 200 tx_b → C 3 = aI g 9 f4 → C 4 = aI g 45 f13 → lv_has ls 9 [(0, .ref (ad 1)), (1, .int p0), (2, .int q2), (3, .int x6), (4, .int x11), (5, .int x12)] → LX5_readLine_45 tx_len tx_b q2 f4 x6 x11 ko n x12 f13 x14 x15 = some rr → W p l e (headSpec wsX5_readLine rmX5_readLine).room s m args below meth c H locs 0 0 QQ (F0 m 45 ls []) := by
      intro ko hko n
      induction n with
      | zero =>
        intro x12 f13 x14 x15 C H locs ls hP hS hag h1 h2 h3 h4 hl hf
        rw [LX5_readLine_45_z] at hf
        cases hf
      | succ n ih =>
        intro x12 f13 x14 x15 C H locs ls hP hS hag h1 h2 h3 h4 hl hf
        rw [LX5_readLine_45_s] at hf
        refine lv_iload hx hb dX5_readLine_45 (lv_at hl 5 rfl) ?_
        refine lv_iload hx hb dX5_readLine_47 (lv_at hl 4 rfl) ?_
        refine lv_icmp_ge (tgt := 166) hx hb dX5_readLine_49 (by decide) (fun c20 => ?_) (fun c20 => ?_)
        · have hf := it_e c20 hf
          exact hko x12 f13 x14 x15 C H locs ls hP hS hag h1 h2 h3 h4 (lv_sub hl [0, 1, 2, 3, 4, 5] rfl) hf
        · have hf := ie_e c20 hf
          refine lv_aload_n hx hb dX5_readLine_52 rfl (lv_at hl 0 rfl) ?_
          obtain ⟨q21, hq21, hf⟩ := bd_e hf
          refine k_vW (va_runV (C := RX5) (As := []) (rest := []) ⟨hx, hb, hml, hown, hts⟩ (c_X5_nextToken (l := l) (sz := H.size)  hN hI h1 h2 hq21) (cwV 0 hts gX5_readLine_X5_nextToken rfl rfl rfl (by decide +kernel) ⟨Nat.le_of_ble_eq_true rfl, Nat.le_of_ble_eq_true rfl⟩) (preV_of hK hP (by omega) h1 rfl) rfl rfl hl.1 rfl (lv_room (Nat.le_of_ble_eq_true rfl)) dX5_readLine_53 ⟨Nat.le_of_ble_eq_true rfl, Nat.le_of_ble_eq_true rfl⟩) hA hAd hS (fun C H locs hP hS hpo => ?_)
          obtain ⟨he, h1⟩ := hpo
          have hag : ∀ i : Nat, i ≠ 1 ∧ i ≠ 3 ∧ i ≠ 4 → C i = C0 i := fun i h => (he i (by omega)).trans (hag i h)
          have h2 := (he 2 (by decide)).trans h2
          have h3 := (he 3 (by decide)).trans h3
          have h4 := (he 4 (by decide)).trans h4
          refine lv_aload_n hx hb dX5_readLine_56 rfl (lv_at hl 0 rfl) ?_
          obtain ⟨q22, hq22, hf⟩ := bd_e hf
          refine k_iR (va_runV (C := RX5) (As := []) (rest := []) ⟨hx, hb, hml, hown, hts⟩ (c_X5_numberOfToken (l := l) (sz := H.size)  hN h1 h2 hq22) (cwV 0 hts gX5_readLine_X5_numberOfToken rfl rfl rfl (by decide +kernel) ⟨Nat.le_of_ble_eq_true rfl, Nat.le_of_ble_eq_true rfl⟩) (preV_of hK hP (by omega) h1 rfl) rfl rfl hl.1 rfl (lv_room (Nat.le_of_ble_eq_true rfl)) dX5_readLine_57 ⟨Nat.le_of_ble_eq_true rfl, Nat.le_of_ble_eq_true rfl⟩) hA hP hS (fun H locs hP hS hbz_q22 => ?_)
          refine lv_istore (lv' := [(6, .int q22), (0, .ref (ad 1)), (1, .int p0), (2, .int q2), (3, .int x6), (4, .int x11), (5, .int x12)]) hx hb dX5_readLine_60 hl (by decide) rfl (fun ls hl => ?_)
          refine lv_iload_n hx hb dX5_readLine_62 rfl (lv_at hl 3 rfl) ?_
          refine lv_iconst (v := 3) hx hb dX5_readLine_63 (by decide) ?_
          obtain ⟨q23, htq23, hf⟩ := bd_e hf
          have jnq23 : ∀ (C : Nat → va_E) (H : Heap) (locs : List Loc) (ls : Array Slot), va_P D vwCl (wd N ad C) H → va_S (Aw N ad s.heap.size) s.heap H locs → (∀ i : Nat, i ≠ 1 ∧ i ≠ 3 ∧ i ≠ 4 → C i = C0 i) → C 1 = .inr (5, [.ref (ad 2), .ref (ad 3), .ref (ad 4), .int tx_len, .int tx_lines, .int q21.1, .int q21.2]) → C 2 = aI g 200 tx_b → C 3 = aI g 9 f4 → C 4 = aI g 45 f13 → lv_has ls 9 [(0, .ref (ad 1)), (1, .int p0), (2, .int q2), (3, .int x6), (4, .int x11), (5, .int x12), (6, .int q22)] → W p l e (headSpec wsX5_readLine rmX5_readLine).room s m args below meth c H locs 0 0 QQ (F0 m 96 ls [.int q23]) := by
            intro C H locs ls hP hS hag h1 h2 h3 h4 hl
            refine lv_istore (lv' := [(7, .int q23), (0, .ref (ad 1)), (1, .int p0), (2, .int q2), (3, .int x6), (4, .int x11), (5, .int x12), (6, .int q22)]) hx hb dX5_readLine_96 hl (by decide) rfl (fun ls hl => ?_)
            refine lv_iload_n hx hb dX5_readLine_98 rfl (lv_at hl 3 rfl) ?_
            obtain ⟨q24, htq24, hf⟩ := bd_e hf
            have jnq24 : ∀ (C : Nat → va_E) (H : Heap) (locs : List Loc) (ls : Array Slot), va_P D vwCl (wd N ad C) H → va_S (Aw N ad s.heap.size) s.heap H locs → (∀ i : Nat, i ≠ 1 ∧ i ≠ 3 ∧ i ≠ 4 → C i = C0 i) → C 1 = .inr (5, [.ref (ad 2), .ref (ad 3), .ref (ad 4), .int tx_len, .int tx_lines, .int q21.1, .int q21.2]) → C 2 = aI g 200 tx_b → C 3 = aI g 9 f4 → C 4 = aI g 45 f13 → lv_has ls 9 [(0, .ref (ad 1)), (1, .int p0), (2, .int q2), (3, .int x6), (4, .int x11), (5, .int x12), (6, .int q22), (7, .int q23)] → W p l e (headSpec wsX5_readLine rmX5_readLine).room s m args below meth c H locs 0 0 QQ (F0 m 131 ls [.int q24]) := by
              intro C H locs ls hP hS hag h1 h2 h3 h4 hl
              refine lv_istore (lv' := [(8, .int q24), (0, .ref (ad 1)), (1, .int p0), (2, .int q2), (3, .int x6), (4, .int x11), (5, .int x12), (6, .int q22), (7, .int q23)]) hx hb dX5_readLine_131 hl (by decide) rfl (fun ls hl => ?_)
              refine lv_iload hx hb dX5_readLine_133 (lv_at hl 7 rfl) ?_
              refine lv_iload hx hb dX5_readLine_135 (lv_at hl 8 rfl) ?_
              refine lv_icmp_lt (tgt := 147) hx hb dX5_readLine_137 (by decide) (fun c25 => ?_) (fun c25 => ?_)
              · have hf := it_e c25 hf
                refine lv_iconst (v := 0) hx hb dX5_readLine_147 (by decide) ?_
                obtain rfl := Option.some.inj hf
                rw [← hQ]
                exact e_zW hx hb hr rfl bz0 hP hS ⟨hag, h1, h3, h4⟩ hlocks dX5_readLine_148
              · have hf := ie_e c25 hf
                refine lv_iload hx hb dX5_readLine_140 (lv_at hl 7 rfl) ?_
                refine lv_iload hx hb dX5_readLine_142 (lv_at hl 0 rfl) ?_
                refine lv_icmp_le (tgt := 149) hx hb dX5_readLine_144 (by decide) (fun c26 => ?_) (fun c26 => ?_)
                · have hf := it_e c26 hf
                  refine lv_aload_n hx hb dX5_readLine_149 rfl (lv_at hl 1 rfl) ?_
                  refine r_get (own := RX5) (T := TX5) (n := 7) (ci := 5) (v := .ref (ad 4)) hx hb hts nX5 hown hK hP (by omega) h1 rfl 2 (by decide) k4 rfl dX5_readLine_150 ?_
                  refine lv_iload_n hx hb dX5_readLine_153 rfl (lv_at hl 4 rfl) ?_
                  refine lv_iload hx hb dX5_readLine_154 (lv_at hl 6 rfl) ?_
                  refine lv_iadd hx hb dX5_readLine_156 ?_
                  refine lv_iload hx hb dX5_readLine_157 (lv_at hl 7 rfl) ?_
                  obtain ⟨i28, f27, ef27, hf⟩ := wi_e hf
                  refine r_iast hx hb hK hI hAd hP hS (by omega) h4 i28 dX5_readLine_159 ef27 (fun C H locs hP hS he hn => ?_)
                  have hag : ∀ i : Nat, i ≠ 1 ∧ i ≠ 3 ∧ i ≠ 4 → C i = C0 i := fun i h => (he i (by omega)).trans (hag i h)
                  have h1 := (he 1 (by decide)).trans h1
                  have h2 := (he 2 (by decide)).trans h2
                  have h3 := (he 3 (by decide)).trans h3
                  have h4 : C 4 = aI g 45 f27 := hn
                  obtain ⟨x29, ex29, hf⟩ := lt_e hf
                  refine lv_iinc (v := x29) (lv' := [(5, .int x29), (8, .int q24), (0, .ref (ad 1)), (1, .int p0), (2, .int q2), (3, .int x6), (4, .int x11), (6, .int q22), (7, .int q23)]) hx hb dX5_readLine_160 hl (k := 6) rfl (by rw [ex29]; rfl) (by decide) rfl (fun ls hl => ?_)
                  refine lv_goto (tgt := 45) hx hb dX5_readLine_163 (by decide) ?_
                  exact ih x29 f27 q21.2 q21.1 C H locs ls hP hS hag h1 h2 h3 h4 (lv_sub hl [2, 3, 4, 5, 6, 0] rfl) hf
                · have hf := ie_e c26 hf
                  refine lv_iconst (v := 0) hx hb dX5_readLine_147 (by decide) ?_
                  obtain rfl := Option.some.inj hf
                  rw [← hQ]
                  exact e_zW hx hb hr rfl bz0 hP hS ⟨hag, h1, h3, h4⟩ hlocks dX5_readLine_148
            clear hf
            have hf := htq24
            refine lv_if_ne (tgt := 119) hx hb dX5_readLine_99 (by decide) (fun c30 => ?_) (fun c30 => ?_)
            · have hf := ie_e c30 hf
              refine va_gets (own := RX5) hx hb hSD.2.2.2.2.2.2.1 hS hown k5 (fun _ h => h) dX5_readLine_119 ?_
              refine va_gets (own := RX5) hx hb hSD.2.2.2.2.1.1 hS hown k2 (fun _ h => h) dX5_readLine_122 ?_
              refine lv_iload_n hx hb dX5_readLine_125 rfl (lv_at hl 3 rfl) ?_
              obtain ⟨i32, x31, ex31, hf⟩ := ri_e hf
              refine va_ti (v := .int x31) hx hb hSD.2.2.2.2.1.2 hS i32 (by rw [ex31]) dX5_readLine_126 ?_
              refine lv_iload hx hb dX5_readLine_127 (lv_at hl 6 rfl) ?_
              refine lv_iadd hx hb dX5_readLine_129 ?_
              obtain ⟨i34, x33, ex33, hf⟩ := ri_e hf
              refine va_ti (v := .int x33) hx hb hSD.2.2.2.2.2.2.2 hS i34 (by rw [ex33]) dX5_readLine_130 ?_
              obtain rfl := Option.some.inj hf
              exact jnq24 C H locs ls hP hS hag h1 h2 h3 h4 (lv_sub hl [1, 2, 3, 4, 5, 6, 7, 0] rfl)
            · have hf := it_e c30 hf
              refine lv_iload hx hb dX5_readLine_102 (lv_at hl 6 rfl) ?_
              refine lv_iconst (v := 1) hx hb dX5_readLine_104 (by decide) ?_
              refine lv_icmp_ne (tgt := 119) hx hb dX5_readLine_105 (by decide) (fun c35 => ?_) (fun c35 => ?_)
              · have hf := ie_e c35 hf
                refine va_gets (own := RX5) hx hb hSD.2.2.2.2.2.2.1 hS hown k5 (fun _ h => h) dX5_readLine_119 ?_
                refine va_gets (own := RX5) hx hb hSD.2.2.2.2.1.1 hS hown k2 (fun _ h => h) dX5_readLine_122 ?_
                refine lv_iload_n hx hb dX5_readLine_125 rfl (lv_at hl 3 rfl) ?_
                obtain ⟨i37, x36, ex36, hf⟩ := ri_e hf
                refine va_ti (v := .int x36) hx hb hSD.2.2.2.2.1.2 hS i37 (by rw [ex36]) dX5_readLine_126 ?_
                refine lv_iload hx hb dX5_readLine_127 (lv_at hl 6 rfl) ?_
                refine lv_iadd hx hb dX5_readLine_129 ?_
                obtain ⟨i39, x38, ex38, hf⟩ := ri_e hf
                refine va_ti (v := .int x38) hx hb hSD.2.2.2.2.2.2.2 hS i39 (by rw [ex38]) dX5_readLine_130 ?_
                obtain rfl := Option.some.inj hf
                exact jnq24 C H locs ls hP hS hag h1 h2 h3 h4 (lv_sub hl [1, 2, 3, 4, 5, 6, 7, 0] rfl)
              · have hf := it_e c35 hf
                refine lv_aload_n hx hb dX5_readLine_108 rfl (lv_at hl 1 rfl) ?_
                refine r_get (own := RX5) (T := TX5) (n := 7) (ci := 5) (v := .ref (ad 4)) hx hb hts nX5 hown hK hP (by omega) h1 rfl 2 (by decide) k4 rfl dX5_readLine_109 ?_
                refine lv_iload_n hx hb dX5_readLine_112 rfl (lv_at hl 4 rfl) ?_
                obtain ⟨i41, x40, ex40, hf⟩ := ri_e hf
                refine r_iald hx hb hK hP (by omega) h4 i41 dX5_readLine_113 ex40 ?_
                refine lv_iconst (v := 1) hx hb dX5_readLine_114 (by decide) ?_
                refine lv_isub hx hb dX5_readLine_115 ?_
                refine lv_goto (tgt := 131) hx hb dX5_readLine_116 (by decide) ?_
                obtain rfl := Option.some.inj hf
                exact jnq24 C H locs ls hP hS hag h1 h2 h3 h4 (lv_sub hl [1, 2, 3, 4, 5, 6, 7, 0] rfl)
          clear hf
          have hf := htq23
          refine lv_icmp_ne (tgt := 84) hx hb dX5_readLine_64 (by decide) (fun c42 => ?_) (fun c42 => ?_)
          · have hf := ie_e c42 hf
            refine va_gets (own := RX5) hx hb hSD.2.2.2.2.2.1.1 hS hown k3 (fun _ h => h) dX5_readLine_84 ?_
            refine va_gets (own := RX5) hx hb hSD.2.2.2.2.1.1 hS hown k2 (fun _ h => h) dX5_readLine_87 ?_
            refine lv_iload_n hx hb dX5_readLine_90 rfl (lv_at hl 3 rfl) ?_
            obtain ⟨i44, x43, ex43, hf⟩ := ri_e hf
            refine va_ti (v := .int x43) hx hb hSD.2.2.2.2.1.2 hS i44 (by rw [ex43]) dX5_readLine_91 ?_
            refine lv_iload hx hb dX5_readLine_92 (lv_at hl 6 rfl) ?_
            refine lv_iadd hx hb dX5_readLine_94 ?_
            obtain ⟨i46, x45, ex45, hf⟩ := ri_e hf
            refine va_ti (v := .int x45) hx hb hSD.2.2.2.2.2.1.2 hS i46 (by rw [ex45]) dX5_readLine_95 ?_
            obtain rfl := Option.some.inj hf
            exact jnq23 C H locs ls hP hS hag h1 h2 h3 h4 (lv_sub hl [1, 2, 3, 4, 5, 6, 0] rfl)
          · have hf := it_e c42 hf
            refine lv_iload hx hb dX5_readLine_67 (lv_at hl 6 rfl) ?_
            refine lv_iconst (v := 2) hx hb dX5_readLine_69 (by decide) ?_
            refine lv_icmp_ne (tgt := 84) hx hb dX5_readLine_70 (by decide) (fun c47 => ?_) (fun c47 => ?_)
            · have hf := ie_e c47 hf
              refine va_gets (own := RX5) hx hb hSD.2.2.2.2.2.1.1 hS hown k3 (fun _ h => h) dX5_readLine_84 ?_
              refine va_gets (own := RX5) hx hb hSD.2.2.2.2.1.1 hS hown k2 (fun _ h => h) dX5_readLine_87 ?_
              refine lv_iload_n hx hb dX5_readLine_90 rfl (lv_at hl 3 rfl) ?_
              obtain ⟨i49, x48, ex48, hf⟩ := ri_e hf
              refine va_ti (v := .int x48) hx hb hSD.2.2.2.2.1.2 hS i49 (by rw [ex48]) dX5_readLine_91 ?_
              refine lv_iload hx hb dX5_readLine_92 (lv_at hl 6 rfl) ?_
              refine lv_iadd hx hb dX5_readLine_94 ?_
              obtain ⟨i51, x50, ex50, hf⟩ := ri_e hf
              refine va_ti (v := .int x50) hx hb hSD.2.2.2.2.2.1.2 hS i51 (by rw [ex50]) dX5_readLine_95 ?_
              obtain rfl := Option.some.inj hf
              exact jnq23 C H locs ls hP hS hag h1 h2 h3 h4 (lv_sub hl [1, 2, 3, 4, 5, 6, 0] rfl)
            · have hf := it_e c47 hf
              refine lv_aload_n hx hb dX5_readLine_73 rfl (lv_at hl 1 rfl) ?_
              refine r_get (own := RX5) (T := TX5) (n := 7) (ci := 5) (v := .ref (ad 4)) hx hb hts nX5 hown hK hP (by omega) h1 rfl 2 (by decide) k4 rfl dX5_readLine_74 ?_
              refine lv_iload_n hx hb dX5_readLine_77 rfl (lv_at hl 4 rfl) ?_
              refine lv_iconst (v := 1) hx hb dX5_readLine_78 (by decide) ?_
              refine lv_iadd hx hb dX5_readLine_79 ?_
              obtain ⟨i53, x52, ex52, hf⟩ := ri_e hf
              refine r_iald hx hb hK hP (by omega) h4 i53 dX5_readLine_80 ex52 ?_
              refine lv_goto (tgt := 96) hx hb dX5_readLine_81 (by decide) ?_
              obtain rfl := Option.some.inj hf
              exact jnq23 C H locs ls hP hS hag h1 h2 h3 h4 (lv_sub hl [1, 2, 3, 4, 5, 6, 0] rfl)
    refine key45 _ (fun x16 f17 x18 x19 C H locs ls hP hS hag h1 h2 h3 h4 hl hf => ?_) FU 0 tx_n q1.2 q1.1 C H locs ls hP hS hag h1 h2 h3 h4 (lv_sub hl [4, 5, 3, 2, 1, 0] rfl) hf
    refine lv_iconst (v := 1) hx hb dX5_readLine_166 (by decide) ?_
    obtain rfl := Option.some.inj hf
    rw [← hQ]
    exact e_zW hx hb hr rfl bz1 hP hS ⟨hag, h1, h3, h4⟩ hlocks dX5_readLine_167
  · have hf := it_e c3 hf
    refine lv_iconst (v := 0) hx hb dX5_readLine_14 (by decide) ?_
    obtain rfl := Option.some.inj hf
    rw [← hQ]
    exact e_zW hx hb hr rfl bz0 hP hS ⟨hag, h1, h3, h4⟩ hlocks dX5_readLine_15

def LX5_read_12 (tx_len : Int32) (tx_b : Nat → Int32) (ko : Int32 → (Nat → Int32) → Int32 → (Nat → Int32) → Int32 → Int32 → Option (Int32 × Int32 × Int32 × Int32 × (Nat → Int32) × (Nat → Int32))) : Nat → Int32 → (Nat → Int32) → Int32 → (Nat → Int32) → Int32 → Int32 → Option (Int32 × Int32 × Int32 × Int32 × (Nat → Int32) × (Nat → Int32))
  | 0, _, _, _, _, _, _ => none
  | n + 1, x1, f2, x3, f4, x5, x6 =>
    if 9 ≤ x1 then
      ko x1 f2 x3 f4 x5 x6
    else
      (f_X5_readLine x1 tx_len x6 x5 tx_b f2 f4).bind fun q14 =>
      if q14.1 = 0 then
        some (q14.2.1, x3, q14.2.1, q14.2.2.1, q14.2.2.2.1, q14.2.2.2.2)
      else
        lt ((x1 + 1) : Int32) fun x16 =>
        (f_X5_nextToken tx_len q14.2.1 q14.2.2.1 tx_b).bind fun q17 =>
        if q17.1 < tx_len then
          ri tx_b 200 (q17.1) fun x19 =>
          if x19 = 59 then
            lt (x1 + 1 : Int32) fun x22 =>
            LX5_read_12 tx_len tx_b ko n x22 q14.2.2.2.1 x16 q14.2.2.2.2 q17.2 q17.1
          else
            some (q17.1, x16, q17.1, q17.2, q14.2.2.2.1, q14.2.2.2.2)
        else
          some ((-1), x16, q17.1, q17.2, q14.2.2.2.1, q14.2.2.2.2)
theorem LX5_read_12_z (tx_len : Int32) (tx_b : Nat → Int32) (ko : Int32 → (Nat → Int32) → Int32 → (Nat → Int32) → Int32 → Int32 → Option (Int32 × Int32 × Int32 × Int32 × (Nat → Int32) × (Nat → Int32))) (x1 : Int32) (f2 : Nat → Int32) (x3 : Int32) (f4 : Nat → Int32) (x5 : Int32) (x6 : Int32) : LX5_read_12 tx_len tx_b ko 0 x1 f2 x3 f4 x5 x6 = none := rfl
theorem LX5_read_12_s (tx_len : Int32) (tx_b : Nat → Int32) (ko : Int32 → (Nat → Int32) → Int32 → (Nat → Int32) → Int32 → Int32 → Option (Int32 × Int32 × Int32 × Int32 × (Nat → Int32) × (Nat → Int32))) (n : Nat) (x1 : Int32) (f2 : Nat → Int32) (x3 : Int32) (f4 : Nat → Int32) (x5 : Int32) (x6 : Int32) : LX5_read_12 tx_len tx_b ko (n + 1) x1 f2 x3 f4 x5 x6 =
    if 9 ≤ x1 then
      ko x1 f2 x3 f4 x5 x6
    else
      (f_X5_readLine x1 tx_len x6 x5 tx_b f2 f4).bind fun q14 =>
      if q14.1 = 0 then
        some (q14.2.1, x3, q14.2.1, q14.2.2.1, q14.2.2.2.1, q14.2.2.2.2)
      else
        lt ((x1 + 1) : Int32) fun x16 =>
        (f_X5_nextToken tx_len q14.2.1 q14.2.2.1 tx_b).bind fun q17 =>
        if q17.1 < tx_len then
          ri tx_b 200 (q17.1) fun x19 =>
          if x19 = 59 then
            lt (x1 + 1 : Int32) fun x22 =>
            LX5_read_12 tx_len tx_b ko n x22 q14.2.2.2.1 x16 q14.2.2.2.2 q17.2 q17.1
          else
            some (q17.1, x16, q17.1, q17.2, q14.2.2.2.1, q14.2.2.2.2)
        else
          some ((-1), x16, q17.1, q17.2, q14.2.2.2.1, q14.2.2.2.2) := rfl
def f_X5_read (tx_len : Int32) (tx_lines : Int32) (tx_ts : Int32) (tx_te : Int32) (tx_b : Nat → Int32) (tx_k : Nat → Int32) (tx_n : Nat → Int32) : Option (Int32 × Int32 × Int32 × Int32 × (Nat → Int32) × (Nat → Int32)) :=
  LX5_read_12 tx_len tx_b (fun x7 f8 x9 f10 x11 x12 =>
    some (x12, x9, x12, x11, f8, f10)) FU 0 tx_k 0 tx_n 0 tx_ts
abbrev rmX5_read : Room := { frames := 7, cells := 0, slots := 0, locals := 156 }
set_option maxHeartbeats 4000000 in
set_option maxRecDepth 100000 in
theorem c_X5_read {l : Launch} {adK adV tb : Nat → Nat} {D : va_G} {g : Nat → ClassId} {N : Nat} {ad : Nat → Nat} {C : Nat → va_E} {sz : Nat} {tx_len : Int32} {tx_lines : Int32} {tx_ts : Int32} {tx_te : Int32} {tx_b : Nat → Int32} {tx_k : Nat → Int32} {tx_n : Nat → Int32}  {rr : Int32 × Int32 × Int32 × Int32 × (Nat → Int32) × (Nat → Int32)} (hN : 86 ≤ N) (hI : Inj N ad) (h1 : C 1 = .inr (5, [.ref (ad 2), .ref (ad 3), .ref (ad 4), .int tx_len, .int tx_lines, .int tx_ts, .int tx_te])) (h2 : C 2 = aI g 200 tx_b) (h3 : C 3 = aI g 9 tx_k) (h4 : C 4 = aI g 45 tx_n) (hf : f_X5_read tx_len tx_lines tx_ts tx_te tx_b tx_k tx_n = some rr) : Met l yX5_read wsX5_read rmX5_read (PcT D g N ad C adK adV tb sz [.ref (ad 1)]) (QiW D N ad sz tP rr.1 (fun C' => (∀ i : Nat, i ≠ 1 ∧ i ≠ 3 ∧ i ≠ 4 → C' i = C i) ∧ (C' 1 = .inr (5, [.ref (ad 2), .ref (ad 3), .ref (ad 4), .int tx_len, .int rr.2.1, .int rr.2.2.1, .int rr.2.2.2.1])) ∧ (C' 3 = aI g 9 rr.2.2.2.2.1) ∧ (C' 4 = aI g 45 rr.2.2.2.2.2))) 0 0 (Aw N ad sz) := by
  refine Met.ofW (cc := cX5_read) (maxL := 2) (ret := (some .int)) (by decide) rfl ?_
  intro p e s m args below meth c s₁ B hml hv
  obtain ⟨hav, hsz, hK, hP, hSDw⟩ := hv
  subst hsz
  have hx := B.exec
  have hb := B.bytes
  have hr := B.returns
  have hts := atoms_spec (ws := wsX5_read) B.pre
  have hown : s.vm.findClass RX5 = some m.cls := findClass_of_methodNamed B.named
  have hlocks := B.notSynchronized
  generalize hQ : MQ below (QiW D N ad s.heap.size tP rr.1 (fun C' => (∀ i : Nat, i ≠ 1 ∧ i ≠ 3 ∧ i ≠ 4 → C' i = C i) ∧ (C' 1 = .inr (5, [.ref (ad 2), .ref (ad 3), .ref (ad 4), .int tx_len, .int rr.2.1, .int rr.2.2.1, .int rr.2.2.2.1])) ∧ (C' 3 = aI g 9 rr.2.2.2.2.1) ∧ (C' 4 = aI g 45 rr.2.2.2.2.2))) args s 0 0 (Aw N ad s.heap.size) = QQ
  have hS : va_S (Aw N ad s.heap.size) s.heap s.heap [] := va_S.rf
  have hA : ∀ q, s.heap.size ≤ q → (Aw N ad s.heap.size) q := fun q h => Or.inr h
  have hSD : SD adK adV tb (Aw N ad s.heap.size) s s.heap := hSDw
  have hAB : ∀ q, (Aw N ad s.heap.size) q → Aw N ad s.heap.size q := fun q h => h
  have hAd : ∀ j : Nat, j < N → (Aw N ad s.heap.size) (ad j) := fun j h => Or.inl ⟨j, h, rfl⟩
  obtain ⟨C0, hC0⟩ : ∃ C0 : Nat → va_E, C0 = C := ⟨_, rfl⟩
  have hag : ∀ i : Nat, i ≠ 1 ∧ i ≠ 3 ∧ i ≠ 4 → C i = C0 i := fun i _ => by rw [hC0]
  rw [← hC0] at hQ
  have k0 := hts (.fieldLink RX5 27 "UpDrain$Text" "lines" "I") (List.mem_of_getElem? (i := 1) rfl)
  have nX5 : ∀ w ∈ u_ws RX5 TX5 7, w ∈ wsX5_read := fun _ h => List.mem_cons_of_mem _ (List.mem_append_right _ h)
  have k2 := hts (.fieldLink RX5 30 "UpDrain$Text" "tokenEnd" "I") (List.mem_of_getElem? (i := 2) rfl)
  have k3 := hts (.fieldLink RX5 37 "UpDrain$Text" "tokenStart" "I") (List.mem_of_getElem? (i := 3) rfl)
  have k4 := hts (.fieldLink RX5 21 "UpDrain$Text" "length" "I") (List.mem_of_getElem? (i := 4) rfl)
  have k5 := hts (.fieldLink RX5 11 "UpDrain$Text" "bytes" "[I") (List.mem_of_getElem? (i := 5) rfl)
  have hE := lg_entry_eq m [.ref (ad 1)] 2
  rw [← hav] at hE
  rw [hE]
  have hl := lv_entry [.ref (ad 1)] (n := 2) (Nat.le_of_ble_eq_true rfl)
  generalize (lg_sl [.ref (ad 1)] ++ List.replicate (2 - (lg_sl [.ref (ad 1)]).length) Slot.unset).toArray = ls at hl ⊢
  have hl : lv_has ls 2 [(0, .ref (ad 1))] := hl
  clear hE
  unfold f_X5_read at hf
  suffices hgo : ∀ (H : Heap) (locs : List Loc), va_P D vwCl (wd N ad C) H → va_S (Aw N ad s.heap.size) s.heap H locs → W p l e (headSpec wsX5_read rmX5_read).room s m args below meth c H locs 0 0 QQ (F0 m 0 ls []) from hgo s.heap [] hP hS
  clear hS hP
  intro H locs hP hS
  refine lv_aload_n hx hb dX5_read_0 rfl (lv_at hl 0 rfl) ?_
  refine lv_iconst (v := 0) hx hb dX5_read_1 (by decide) ?_
  refine r_put (own := RX5) (T := TX5) (n := 7) (ci := 5) (v := .int 0) hx hb hts nX5 tyX5 tyX5_ok nmX5 hown hK hI hAd hP hS (by omega) h1 rfl 4 (by decide) k0 rfl rfl rfl (Nat.le_of_ble_eq_true rfl) dX5_read_2 (fun C H locs hP hS he hn => ?_)
  have hag : ∀ i : Nat, i ≠ 1 ∧ i ≠ 3 ∧ i ≠ 4 → C i = C0 i := fun i h => (he i (by omega)).trans (hag i h)
  have h2 := (he 2 (by decide)).trans h2
  have h3 := (he 3 (by decide)).trans h3
  have h4 := (he 4 (by decide)).trans h4
  have h1 : C 1 = .inr (5, [.ref (ad 2), .ref (ad 3), .ref (ad 4), .int tx_len, .int 0, .int tx_ts, .int tx_te]) := hn
  refine lv_aload_n hx hb dX5_read_5 rfl (lv_at hl 0 rfl) ?_
  refine lv_iconst (v := 0) hx hb dX5_read_6 (by decide) ?_
  refine r_put (own := RX5) (T := TX5) (n := 7) (ci := 5) (v := .int 0) hx hb hts nX5 tyX5 tyX5_ok nmX5 hown hK hI hAd hP hS (by omega) h1 rfl 6 (by decide) k2 rfl rfl rfl (Nat.le_of_ble_eq_true rfl) dX5_read_7 (fun C H locs hP hS he hn => ?_)
  have hag : ∀ i : Nat, i ≠ 1 ∧ i ≠ 3 ∧ i ≠ 4 → C i = C0 i := fun i h => (he i (by omega)).trans (hag i h)
  have h2 := (he 2 (by decide)).trans h2
  have h3 := (he 3 (by decide)).trans h3
  have h4 := (he 4 (by decide)).trans h4
  have h1 : C 1 = .inr (5, [.ref (ad 2), .ref (ad 3), .ref (ad 4), .int tx_len, .int 0, .int tx_ts, .int 0]) := hn
  refine lv_iconst (v := 0) hx hb dX5_read_10 (by decide) ?_
  refine lv_istore_n (lv' := [(1, .int 0), (0, .ref (ad 1))]) hx hb dX5_read_11 rfl hl (by decide) rfl (fun ls hl => ?_)
  have key12 : ∀ (ko : Int32 → (Nat → Int32) → Int32 → (Nat → Int32) → Int32 → Int32 → Option (Int32 × Int32 × Int32 × Int32 × (Nat → Int32) × (Nat → Int32))), (∀ (x7 : Int32) (f8 : Nat → Int32) (x9 : Int32) (f10 : Nat → Int32) (x11 : Int32) (x12 : Int32) (C : Nat → va_E) (H : Heap) (locs : List Loc) (ls : Array Slot), va_P D vwCl (wd N ad C) H → va_S (Aw N ad s.heap.size) s.heap H locs → (∀ i : Nat, i ≠ 1 ∧ i ≠ 3 ∧ i ≠ 4 → C i = C0 i) → C 1 = .inr (5, [.ref (ad 2), .ref (ad 3), .ref (ad 4), .int tx_len, .int x9, .int x12, .int x11]) → C 2 = aI g 200 tx_b → C 3 = aI g 9 f8 → C 4 = aI g 45 f10 → lv_has ls 2 [(0, .ref (ad 1)), (1, .int x7)] → ko x7 f8 x9 f10 x11 x12 = some rr → W p l e (headSpec wsX5_read rmX5_read).room s m args below meth c H locs 0 0 QQ (F0 m 80 ls [])) → ∀ (n : Nat) (x1 : Int32) (f2 : Nat → Int32) (x3 : Int32) (f4 : Nat → Int32) (x5 : Int32) (x6 : Int32) (C : Nat → va_E) (H : Heap) (locs : List Loc) (ls : Array Slot), va_P D vwCl (wd N ad C) H → va_S (Aw N ad s.heap.size) s.heap H locs → (∀ i : Nat, i ≠ 1 ∧ i ≠ 3 ∧ i ≠ 4 → C i = C0 i) → C 1 = .inr (5, [.ref (ad 2), .ref (ad 3), .ref (ad 4), .int tx_len, .int x3, .int x6, .int x5]) → C 2 = aI g 200 tx_b → C 3 = aI g 9 f2 → C 4 = aI g 45 f4 → lv_has ls 2 [(0, .ref (ad 1)), (1, .int x1)] → LX5_read_12 tx_len tx_b ko n x1 f2 x3 f4 x5 x6 = some rr → W p l e (headSpec wsX5_read rmX5_read).room s m args below meth c H locs 0 0 QQ (F0 m 12 ls []) := by
    intro ko hko n
    induction n with
    | zero =>
      intro x1 f2 x3 f4 x5 x6 C H locs ls hP hS hag h1 h2 h3 h4 hl hf
      rw [LX5_read_12_z] at hf
      cases hf
    | succ n ih =>
      intro x1 f2 x3 f4 x5 x6 C H locs ls hP hS hag h1 h2 h3 h4 hl hf
      rw [LX5_read_12_s] at hf
      refine lv_iload_n hx hb dX5_read_12 rfl (lv_at hl 1 rfl) ?_
      refine lv_bipush (v := 9) hx hb dX5_read_13 (by decide) ?_
      refine lv_icmp_ge (tgt := 80) hx hb dX5_read_15 (by decide) (fun c13 => ?_) (fun c13 => ?_)
      · have hf := it_e c13 hf
        exact hko x1 f2 x3 f4 x5 x6 C H locs ls hP hS hag h1 h2 h3 h4 (lv_sub hl [0, 1] rfl) hf
      · have hf := ie_e c13 hf
        refine lv_aload_n hx hb dX5_read_18 rfl (lv_at hl 0 rfl) ?_
        refine lv_iload_n hx hb dX5_read_19 rfl (lv_at hl 1 rfl) ?_
        obtain ⟨q14, hq14, hf⟩ := bd_e hf
        refine k_iW (va_runV (C := RX5) (As := [.int x1]) (rest := []) ⟨hx, hb, hml, hown, hts⟩ (c_X5_readLine (l := l) (sz := H.size) (p0 := x1) (adK := adK) (adV := adV) (tb := tb) hN hI h1 h2 h3 h4 hq14) (cwV 1 hts gX5_read_X5_readLine rfl rfl rfl (by decide +kernel) ⟨Nat.le_of_ble_eq_true rfl, Nat.le_of_ble_eq_true rfl⟩) (preT_of hK hSDw hS hAB hP (by omega) h1 rfl) rfl rfl hl.1 rfl (lv_room (Nat.le_of_ble_eq_true rfl)) dX5_read_20 ⟨Nat.le_of_ble_eq_true rfl, Nat.le_of_ble_eq_true rfl⟩) hA hAd hS (fun C H locs hP hS hpo hbz_q14 => ?_)
        obtain ⟨he, h1, h3, h4⟩ := hpo
        have hag : ∀ i : Nat, i ≠ 1 ∧ i ≠ 3 ∧ i ≠ 4 → C i = C0 i := fun i h => (he i (by omega)).trans (hag i h)
        have h2 := (he 2 (by decide)).trans h2
        refine lv_if_ne (tgt := 31) hx hb dX5_read_23 (by decide) (fun c15 => ?_) (fun c15 => ?_)
        · have hf := ie_e c15 hf
          refine lv_aload_n hx hb dX5_read_31 rfl (lv_at hl 0 rfl) ?_
          refine lv_iload_n hx hb dX5_read_32 rfl (lv_at hl 1 rfl) ?_
          refine lv_iconst (v := 1) hx hb dX5_read_33 (by decide) ?_
          refine lv_iadd hx hb dX5_read_34 ?_
          obtain ⟨x16, ex16, hf⟩ := lt_e hf
          refine tp_i ex16 ?_
          refine r_put (own := RX5) (T := TX5) (n := 7) (ci := 5) (v := .int x16) hx hb hts nX5 tyX5 tyX5_ok nmX5 hown hK hI hAd hP hS (by omega) h1 rfl 4 (by decide) k0 rfl rfl rfl (Nat.le_of_ble_eq_true rfl) dX5_read_35 (fun C H locs hP hS he hn => ?_)
          have hag : ∀ i : Nat, i ≠ 1 ∧ i ≠ 3 ∧ i ≠ 4 → C i = C0 i := fun i h => (he i (by omega)).trans (hag i h)
          have h2 := (he 2 (by decide)).trans h2
          have h3 := (he 3 (by decide)).trans h3
          have h4 := (he 4 (by decide)).trans h4
          have h1 : C 1 = .inr (5, [.ref (ad 2), .ref (ad 3), .ref (ad 4), .int tx_len, .int x16, .int q14.2.1, .int q14.2.2.1]) := hn
          refine lv_aload_n hx hb dX5_read_38 rfl (lv_at hl 0 rfl) ?_
          obtain ⟨q17, hq17, hf⟩ := bd_e hf
          refine k_vW (va_runV (C := RX5) (As := []) (rest := []) ⟨hx, hb, hml, hown, hts⟩ (c_X5_nextToken (l := l) (sz := H.size)  hN hI h1 h2 hq17) (cwV 0 hts gX5_read_X5_nextToken rfl rfl rfl (by decide +kernel) ⟨Nat.le_of_ble_eq_true rfl, Nat.le_of_ble_eq_true rfl⟩) (preV_of hK hP (by omega) h1 rfl) rfl rfl hl.1 rfl (lv_room (Nat.le_of_ble_eq_true rfl)) dX5_read_39 ⟨Nat.le_of_ble_eq_true rfl, Nat.le_of_ble_eq_true rfl⟩) hA hAd hS (fun C H locs hP hS hpo => ?_)
          obtain ⟨he, h1⟩ := hpo
          have hag : ∀ i : Nat, i ≠ 1 ∧ i ≠ 3 ∧ i ≠ 4 → C i = C0 i := fun i h => (he i (by omega)).trans (hag i h)
          have h2 := (he 2 (by decide)).trans h2
          have h3 := (he 3 (by decide)).trans h3
          have h4 := (he 4 (by decide)).trans h4
          refine lv_aload_n hx hb dX5_read_42 rfl (lv_at hl 0 rfl) ?_
          refine r_get (own := RX5) (T := TX5) (n := 7) (ci := 5) (v := .int q17.1) hx hb hts nX5 hown hK hP (by omega) h1 rfl 5 (by decide) k3 rfl dX5_read_43 ?_
          refine lv_aload_n hx hb dX5_read_46 rfl (lv_at hl 0 rfl) ?_
          refine r_get (own := RX5) (T := TX5) (n := 7) (ci := 5) (v := .int tx_len) hx hb hts nX5 hown hK hP (by omega) h1 rfl 3 (by decide) k4 rfl dX5_read_47 ?_
          refine lv_icmp_lt (tgt := 55) hx hb dX5_read_50 (by decide) (fun c18 => ?_) (fun c18 => ?_)
          · have hf := it_e c18 hf
            refine lv_aload_n hx hb dX5_read_55 rfl (lv_at hl 0 rfl) ?_
            refine r_get (own := RX5) (T := TX5) (n := 7) (ci := 5) (v := .ref (ad 2)) hx hb hts nX5 hown hK hP (by omega) h1 rfl 0 (by decide) k5 rfl dX5_read_56 ?_
            refine lv_aload_n hx hb dX5_read_59 rfl (lv_at hl 0 rfl) ?_
            refine r_get (own := RX5) (T := TX5) (n := 7) (ci := 5) (v := .int q17.1) hx hb hts nX5 hown hK hP (by omega) h1 rfl 5 (by decide) k3 rfl dX5_read_60 ?_
            obtain ⟨i20, x19, ex19, hf⟩ := ri_e hf
            refine r_iald hx hb hK hP (by omega) h2 i20 dX5_read_63 ex19 ?_
            refine lv_bipush (v := 59) hx hb dX5_read_64 (by decide) ?_
            refine lv_icmp_eq (tgt := 74) hx hb dX5_read_66 (by decide) (fun c21 => ?_) (fun c21 => ?_)
            · have hf := it_e c21 hf
              obtain ⟨x22, ex22, hf⟩ := lt_e hf
              refine lv_iinc (v := x22) (lv' := [(1, .int x22), (0, .ref (ad 1))]) hx hb dX5_read_74 hl (k := 1) rfl (by rw [ex22]; rfl) (by decide) rfl (fun ls hl => ?_)
              refine lv_goto (tgt := 12) hx hb dX5_read_77 (by decide) ?_
              exact ih x22 q14.2.2.2.1 x16 q14.2.2.2.2 q17.2 q17.1 C H locs ls hP hS hag h1 h2 h3 h4 (lv_sub hl [1, 0] rfl) hf
            · have hf := ie_e c21 hf
              refine lv_aload_n hx hb dX5_read_69 rfl (lv_at hl 0 rfl) ?_
              refine r_get (own := RX5) (T := TX5) (n := 7) (ci := 5) (v := .int q17.1) hx hb hts nX5 hown hK hP (by omega) h1 rfl 5 (by decide) k3 rfl dX5_read_70 ?_
              obtain rfl := Option.some.inj hf
              rw [← hQ]
              exact e_iW hx hb hr rfl (tP_i _) hP hS ⟨hag, h1, h3, h4⟩ hlocks dX5_read_73
          · have hf := ie_e c18 hf
            refine lv_iconst (v := (-1)) hx hb dX5_read_53 (by decide) ?_
            obtain rfl := Option.some.inj hf
            rw [← hQ]
            exact e_iW hx hb hr rfl (tP_i _) hP hS ⟨hag, h1, h3, h4⟩ hlocks dX5_read_54
        · have hf := it_e c15 hf
          refine lv_aload_n hx hb dX5_read_26 rfl (lv_at hl 0 rfl) ?_
          refine r_get (own := RX5) (T := TX5) (n := 7) (ci := 5) (v := .int q14.2.1) hx hb hts nX5 hown hK hP (by omega) h1 rfl 5 (by decide) k3 rfl dX5_read_27 ?_
          obtain rfl := Option.some.inj hf
          rw [← hQ]
          exact e_iW hx hb hr rfl (tP_i _) hP hS ⟨hag, h1, h3, h4⟩ hlocks dX5_read_30
  refine key12 _ (fun x7 f8 x9 f10 x11 x12 C H locs ls hP hS hag h1 h2 h3 h4 hl hf => ?_) FU 0 tx_k 0 tx_n 0 tx_ts C H locs ls hP hS hag h1 h2 h3 h4 (lv_sub hl [1, 0] rfl) hf
  refine lv_aload_n hx hb dX5_read_80 rfl (lv_at hl 0 rfl) ?_
  refine r_get (own := RX5) (T := TX5) (n := 7) (ci := 5) (v := .int x12) hx hb hts nX5 hown hK hP (by omega) h1 rfl 5 (by decide) k3 rfl dX5_read_81 ?_
  obtain rfl := Option.some.inj hf
  rw [← hQ]
  exact e_iW hx hb hr rfl (tP_i _) hP hS ⟨hag, h1, h3, h4⟩ hlocks dX5_read_84

