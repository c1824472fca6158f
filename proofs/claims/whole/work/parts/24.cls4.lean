def f_X10_isThere (p0 : Int32) (t_there : Int32) : Option (Int32) :=
  if p0 < 0 then
    some (0)
  else
    if 12 ≤ p0 then
      some (0)
    else
      (f_X10_has t_there p0).bind fun q3 =>
      if q3 = 0 then
        some (0)
      else
        some (1)
abbrev rmX10_isThere : Room := { frames := 1, cells := 0, slots := 0, locals := 21 }
set_option maxHeartbeats 4000000 in
set_option maxRecDepth 100000 in
theorem c_X10_isThere {l : Launch} {D : va_G} {g : Nat → ClassId} {N : Nat} {ad : Nat → Nat} {C : Nat → va_E} {sz : Nat} {t_there : Int32} {t_lift : Int32} {t_none : Int32} {p0 : Int32} {rr : Int32} (hN : 86 ≤ N) (h0 : C 0 = .inr (10, [.ref (ad 1), .ref (ad 5), .ref (ad 19), .ref (ad 21), .ref (ad 60), .ref (ad 77), .ref (ad 81), .ref (ad 84), .ref (ad 85)])) (h5 : C 5 = .inr (7, [.ref (ad 6), .ref (ad 7), .ref (ad 8), .ref (ad 9), .ref (ad 10), .ref (ad 11), .ref (ad 12), .ref (ad 13), .ref (ad 14), .ref (ad 15), .ref (ad 16), .ref (ad 17), .ref (ad 18), .int t_there, .int t_lift, .int t_none])) (hf : f_X10_isThere p0 t_there = some rr) : Met l yX10_isThere wsX10_isThere rmX10_isThere (PcW D g N ad C sz [.ref (ad 0), .int p0]) (QiR sz bz rr) 0 0 (An sz) := by
  refine Met.ofW (cc := cX10_isThere) (maxL := 2) (ret := (some .boolean)) (by decide) rfl ?_
  intro p e s m args below meth c s₁ B hml hv
  obtain ⟨hav, hsz, hK, hP⟩ := hv
  subst hsz
  have hx := B.exec
  have hb := B.bytes
  have hr := B.returns
  have hts := atoms_spec (ws := wsX10_isThere) B.pre
  have hown : s.vm.findClass RX10 = some m.cls := findClass_of_methodNamed B.named
  have hlocks := B.notSynchronized
  generalize hQ : MQ below (QiR s.heap.size bz rr) args s 0 0 (An s.heap.size) = QQ
  have hS : va_S (An s.heap.size) s.heap s.heap [] := va_S.rf
  have hA : ∀ q, s.heap.size ≤ q → (An s.heap.size) q := fun q h => h
  have k0 := hts (.fieldLink RX10 19 "UpDrain" "plan" "LUpDrain$Town;") (List.mem_of_getElem? (i := 1) rfl)
  have nX10 : ∀ w ∈ u_ws RX10 TX10 9, w ∈ wsX10_isThere := fun _ h => List.mem_cons_of_mem _ (List.mem_append_left _ (List.mem_append_right _ h))
  have k2 := nf_40 (A := args) hK
  have nX7 : ∀ w ∈ u_ws RX7 TX7 16, w ∈ wsX10_isThere := fun _ h => List.mem_cons_of_mem _ (List.mem_append_right _ h)
  have hE := lg_entry_eq m [.ref (ad 0), .int p0] 2
  rw [← hav] at hE
  rw [hE]
  have hl := lv_entry [.ref (ad 0), .int p0] (n := 2) (Nat.le_of_ble_eq_true rfl)
  generalize (lg_sl [.ref (ad 0), .int p0] ++ List.replicate (2 - (lg_sl [.ref (ad 0), .int p0]).length) Slot.unset).toArray = ls at hl ⊢
  have hl : lv_has ls 2 [(0, .ref (ad 0)), (1, .int p0)] := hl
  clear hE
  unfold f_X10_isThere at hf
  suffices hgo : ∀ (H : Heap) (locs : List Loc), va_P D vwCl (wd N ad C) H → va_S (An s.heap.size) s.heap H locs → W p l e (headSpec wsX10_isThere rmX10_isThere).room s m args below meth c H locs 0 0 QQ (F0 m 0 ls []) from hgo s.heap [] hP hS
  clear hS hP
  intro H locs hP hS
  refine lv_iload_n hx hb dX10_isThere_0 rfl (lv_at hl 1 rfl) ?_
  refine lv_if_lt (tgt := 28) hx hb dX10_isThere_1 (by decide) (fun c1 => ?_) (fun c1 => ?_)
  · have hf := it_e c1 hf
    refine lv_iconst (v := 0) hx hb dX10_isThere_28 (by decide) ?_
    obtain rfl := Option.some.inj hf
    rw [← hQ]
    exact e_zR hx hb hr rfl bz0 hS hlocks dX10_isThere_29
  · have hf := ie_e c1 hf
    refine lv_iload_n hx hb dX10_isThere_4 rfl (lv_at hl 1 rfl) ?_
    refine lv_bipush (v := 12) hx hb dX10_isThere_5 (by decide) ?_
    refine lv_icmp_ge (tgt := 28) hx hb dX10_isThere_7 (by decide) (fun c2 => ?_) (fun c2 => ?_)
    · have hf := it_e c2 hf
      refine lv_iconst (v := 0) hx hb dX10_isThere_28 (by decide) ?_
      obtain rfl := Option.some.inj hf
      rw [← hQ]
      exact e_zR hx hb hr rfl bz0 hS hlocks dX10_isThere_29
    · have hf := ie_e c2 hf
      refine lv_aload_n hx hb dX10_isThere_10 rfl (lv_at hl 0 rfl) ?_
      refine r_get (own := RX10) (T := TX10) (n := 9) (ci := 10) (v := .ref (ad 5)) hx hb hts nX10 hown hK hP (by omega) h0 rfl 1 (by decide) k0 rfl dX10_isThere_11 ?_
      refine r_getN (own := RX10) (T := TX7) (n := 16) (ci := 7) (v := .int t_there) hx hb hts nX7 hown hK hP (by omega) h5 rfl 13 (by decide) k2 rfl dX10_isThere_14 ?_
      refine lv_iload_n hx hb dX10_isThere_17 rfl (lv_at hl 1 rfl) ?_
      obtain ⟨q3, hq3, hf⟩ := bd_e hf
      refine k_iR (va_runS (As := [.int t_there, .int p0]) (rest := []) ⟨hx, hb, hml, hown, hts⟩ (c_X10_has (l := l) (sz := H.size) (p0 := t_there) (p1 := p0) hq3) (va_cwS 2 hts gX10_isThere_X10_has rfl rfl rfl (by decide +kernel) ⟨Nat.le_of_ble_eq_true rfl, Nat.le_of_ble_eq_true rfl⟩) preS0 rfl rfl hl.1 rfl (lv_room (Nat.le_of_ble_eq_true rfl)) dX10_isThere_18 ⟨Nat.le_of_ble_eq_true rfl, Nat.le_of_ble_eq_true rfl⟩) hA hP hS (fun H locs hP hS hbz_q3 => ?_)
      refine lv_if_eq (tgt := 28) hx hb dX10_isThere_21 (by decide) (fun c4 => ?_) (fun c4 => ?_)
      · have hf := it_e c4 hf
        refine lv_iconst (v := 0) hx hb dX10_isThere_28 (by decide) ?_
        obtain rfl := Option.some.inj hf
        rw [← hQ]
        exact e_zR hx hb hr rfl bz0 hS hlocks dX10_isThere_29
      · have hf := ie_e c4 hf
        refine lv_iconst (v := 1) hx hb dX10_isThere_24 (by decide) ?_
        refine lv_goto (tgt := 29) hx hb dX10_isThere_25 (by decide) ?_
        obtain rfl := Option.some.inj hf
        rw [← hQ]
        exact e_zR hx hb hr rfl bz1 hS hlocks dX10_isThere_29

def f_X10_of (p0 : Int32) (p1 : Int32) (t_down : Nat → Int32) (t_min : Nat → Int32) (t_pac : Nat → Int32) (t_gone : Nat → Int32) (t_infl : Nat → Int32) (t_lik : Nat → Int32) (t_str : Nat → Int32) (t_from : Nat → Int32) (t_unt : Nat → Int32) (t_there : Int32) : Option (Int32) :=
  (f_X10_isThere p0 t_there).bind fun q1 =>
  if q1 = 0 then
    some ((-2))
  else
    if p1 = 0 then
      ri t_down 12 (p0) fun x4 =>
      some (x4)
    else if p1 = 1 then
      ri t_min 12 (p0) fun x7 =>
      some (x7)
    else if p1 = 2 then
      ri t_pac 12 (p0) fun x10 =>
      some (x10)
    else if p1 = 3 then
      ri t_gone 12 (p0) fun x13 =>
      some (x13)
    else if p1 = 4 then
      ri t_infl 12 (p0) fun x16 =>
      some (x16)
    else if p1 = 5 then
      ri t_lik 12 (p0) fun x19 =>
      some (x19)
    else if p1 = 6 then
      ri t_str 12 (p0) fun x22 =>
      some (x22)
    else if p1 = 7 then
      ri t_from 12 (p0) fun x25 =>
      some (x25)
    else if p1 = 8 then
      ri t_unt 12 (p0) fun x28 =>
      some (x28)
    else 
      some ((-3))
abbrev rmX10_of : Room := { frames := 2, cells := 0, slots := 0, locals := 42 }
set_option maxHeartbeats 4000000 in
set_option maxRecDepth 100000 in
theorem c_X10_of {l : Launch} {D : va_G} {g : Nat → ClassId} {N : Nat} {ad : Nat → Nat} {C : Nat → va_E} {sz : Nat} {t_there : Int32} {t_lift : Int32} {t_none : Int32} {t_down : Nat → Int32} {t_min : Nat → Int32} {t_pac : Nat → Int32} {t_gone : Nat → Int32} {t_infl : Nat → Int32} {t_lik : Nat → Int32} {t_str : Nat → Int32} {t_from : Nat → Int32} {t_unt : Nat → Int32} {p0 : Int32} {p1 : Int32} {rr : Int32} (hN : 86 ≤ N) (h0 : C 0 = .inr (10, [.ref (ad 1), .ref (ad 5), .ref (ad 19), .ref (ad 21), .ref (ad 60), .ref (ad 77), .ref (ad 81), .ref (ad 84), .ref (ad 85)])) (h5 : C 5 = .inr (7, [.ref (ad 6), .ref (ad 7), .ref (ad 8), .ref (ad 9), .ref (ad 10), .ref (ad 11), .ref (ad 12), .ref (ad 13), .ref (ad 14), .ref (ad 15), .ref (ad 16), .ref (ad 17), .ref (ad 18), .int t_there, .int t_lift, .int t_none])) (h6 : C 6 = aI g 12 t_down) (h7 : C 7 = aI g 12 t_min) (h8 : C 8 = aI g 12 t_pac) (h9 : C 9 = aI g 12 t_gone) (h10 : C 10 = aI g 12 t_infl) (h11 : C 11 = aI g 12 t_lik) (h12 : C 12 = aI g 12 t_str) (h13 : C 13 = aI g 12 t_from) (h14 : C 14 = aI g 12 t_unt) (hf : f_X10_of p0 p1 t_down t_min t_pac t_gone t_infl t_lik t_str t_from t_unt t_there = some rr) : Met l yX10_of wsX10_of rmX10_of (PcW D g N ad C sz [.ref (ad 0), .int p0, .int p1]) (QiR sz tP rr) 0 0 (An sz) := by
  refine Met.ofW (cc := cX10_of) (maxL := 3) (ret := (some .int)) (by decide) rfl ?_
  intro p e s m args below meth c s₁ B hml hv
  obtain ⟨hav, hsz, hK, hP⟩ := hv
  subst hsz
  have hx := B.exec
  have hb := B.bytes
  have hr := B.returns
  have hts := atoms_spec (ws := wsX10_of) B.pre
  have hown : s.vm.findClass RX10 = some m.cls := findClass_of_methodNamed B.named
  have hlocks := B.notSynchronized
  generalize hQ : MQ below (QiR s.heap.size tP rr) args s 0 0 (An s.heap.size) = QQ
  have hS : va_S (An s.heap.size) s.heap s.heap [] := va_S.rf
  have hA : ∀ q, s.heap.size ≤ q → (An s.heap.size) q := fun q h => h
  have k0 := hts (.fieldLink RX10 19 "UpDrain" "plan" "LUpDrain$Town;") (List.mem_of_getElem? (i := 1) rfl)
  have nX10 : ∀ w ∈ u_ws RX10 TX10 9, w ∈ wsX10_of := fun _ h => List.mem_cons_of_mem _ (List.mem_append_left _ (List.mem_append_right _ h))
  have k2 := nf_6 (A := args) hK
  have nX7 : ∀ w ∈ u_ws RX7 TX7 16, w ∈ wsX10_of := fun _ h => List.mem_cons_of_mem _ (List.mem_append_right _ h)
  have k4 := nf_9 (A := args) hK
  have k5 := nf_11 (A := args) hK
  have k6 := nf_14 (A := args) hK
  have k7 := nf_16 (A := args) hK
  have k8 := nf_20 (A := args) hK
  have k9 := nf_22 (A := args) hK
  have k10 := nf_24 (A := args) hK
  have k11 := nf_26 (A := args) hK
  have hE := lg_entry_eq m [.ref (ad 0), .int p0, .int p1] 3
  rw [← hav] at hE
  rw [hE]
  have hl := lv_entry [.ref (ad 0), .int p0, .int p1] (n := 3) (Nat.le_of_ble_eq_true rfl)
  generalize (lg_sl [.ref (ad 0), .int p0, .int p1] ++ List.replicate (3 - (lg_sl [.ref (ad 0), .int p0, .int p1]).length) Slot.unset).toArray = ls at hl ⊢
  have hl : lv_has ls 3 [(0, .ref (ad 0)), (1, .int p0), (2, .int p1)] := hl
  clear hE
  unfold f_X10_of at hf
  suffices hgo : ∀ (H : Heap) (locs : List Loc), va_P D vwCl (wd N ad C) H → va_S (An s.heap.size) s.heap H locs → W p l e (headSpec wsX10_of rmX10_of).room s m args below meth c H locs 0 0 QQ (F0 m 0 ls []) from hgo s.heap [] hP hS
  clear hS hP
  intro H locs hP hS
  refine lv_aload_n hx hb dX10_of_0 rfl (lv_at hl 0 rfl) ?_
  refine lv_iload_n hx hb dX10_of_1 rfl (lv_at hl 1 rfl) ?_
  obtain ⟨q1, hq1, hf⟩ := bd_e hf
  refine k_iR (va_runV (C := RX10) (As := [.int p0]) (rest := []) ⟨hx, hb, hml, hown, hts⟩ (c_X10_isThere (l := l) (sz := H.size) (p0 := p0) hN h0 h5 hq1) (cwV 1 hts gX10_of_X10_isThere rfl rfl rfl (by decide +kernel) ⟨Nat.le_of_ble_eq_true rfl, Nat.le_of_ble_eq_true rfl⟩) (preV_of hK hP (by omega) h0 rfl) rfl rfl hl.1 rfl (lv_room (Nat.le_of_ble_eq_true rfl)) dX10_of_2 ⟨Nat.le_of_ble_eq_true rfl, Nat.le_of_ble_eq_true rfl⟩) hA hP hS (fun H locs hP hS hbz_q1 => ?_)
  refine lv_if_ne (tgt := 11) hx hb dX10_of_5 (by decide) (fun c2 => ?_) (fun c2 => ?_)
  · have hf := ie_e c2 hf
    refine lv_iload_n hx hb dX10_of_11 rfl (lv_at hl 2 rfl) ?_
    by_cases c3 : p1 = 0
    · have hf := it_e c3 hf
      refine lv_tableIn (tgt := 64) hx hb dX10_of_12 (by rw [c3]; decide) (by rw [c3]; decide) (by rw [c3]; rfl) (by decide) ?_
      refine lv_aload_n hx hb dX10_of_64 rfl (lv_at hl 0 rfl) ?_
      refine r_get (own := RX10) (T := TX10) (n := 9) (ci := 10) (v := .ref (ad 5)) hx hb hts nX10 hown hK hP (by omega) h0 rfl 1 (by decide) k0 rfl dX10_of_65 ?_
      refine r_getN (own := RX10) (T := TX7) (n := 16) (ci := 7) (v := .ref (ad 6)) hx hb hts nX7 hown hK hP (by omega) h5 rfl 0 (by decide) k2 rfl dX10_of_68 ?_
      refine lv_iload_n hx hb dX10_of_71 rfl (lv_at hl 1 rfl) ?_
      obtain ⟨i5, x4, ex4, hf⟩ := ri_e hf
      refine r_iald hx hb hK hP (by omega) h6 i5 dX10_of_72 ex4 ?_
      obtain rfl := Option.some.inj hf
      rw [← hQ]
      exact e_iR hx hb hr rfl (tP_i _) hS hlocks dX10_of_73
    have hf := ie_e c3 hf
    by_cases c6 : p1 = 1
    · have hf := it_e c6 hf
      refine lv_tableIn (tgt := 74) hx hb dX10_of_12 (by rw [c6]; decide) (by rw [c6]; decide) (by rw [c6]; rfl) (by decide) ?_
      refine lv_aload_n hx hb dX10_of_74 rfl (lv_at hl 0 rfl) ?_
      refine r_get (own := RX10) (T := TX10) (n := 9) (ci := 10) (v := .ref (ad 5)) hx hb hts nX10 hown hK hP (by omega) h0 rfl 1 (by decide) k0 rfl dX10_of_75 ?_
      refine r_getN (own := RX10) (T := TX7) (n := 16) (ci := 7) (v := .ref (ad 7)) hx hb hts nX7 hown hK hP (by omega) h5 rfl 1 (by decide) k4 rfl dX10_of_78 ?_
      refine lv_iload_n hx hb dX10_of_81 rfl (lv_at hl 1 rfl) ?_
      obtain ⟨i8, x7, ex7, hf⟩ := ri_e hf
      refine r_iald hx hb hK hP (by omega) h7 i8 dX10_of_82 ex7 ?_
      obtain rfl := Option.some.inj hf
      rw [← hQ]
      exact e_iR hx hb hr rfl (tP_i _) hS hlocks dX10_of_83
    have hf := ie_e c6 hf
    by_cases c9 : p1 = 2
    · have hf := it_e c9 hf
      refine lv_tableIn (tgt := 84) hx hb dX10_of_12 (by rw [c9]; decide) (by rw [c9]; decide) (by rw [c9]; rfl) (by decide) ?_
      refine lv_aload_n hx hb dX10_of_84 rfl (lv_at hl 0 rfl) ?_
      refine r_get (own := RX10) (T := TX10) (n := 9) (ci := 10) (v := .ref (ad 5)) hx hb hts nX10 hown hK hP (by omega) h0 rfl 1 (by decide) k0 rfl dX10_of_85 ?_
      refine r_getN (own := RX10) (T := TX7) (n := 16) (ci := 7) (v := .ref (ad 8)) hx hb hts nX7 hown hK hP (by omega) h5 rfl 2 (by decide) k5 rfl dX10_of_88 ?_
      refine lv_iload_n hx hb dX10_of_91 rfl (lv_at hl 1 rfl) ?_
      obtain ⟨i11, x10, ex10, hf⟩ := ri_e hf
      refine r_iald hx hb hK hP (by omega) h8 i11 dX10_of_92 ex10 ?_
      obtain rfl := Option.some.inj hf
      rw [← hQ]
      exact e_iR hx hb hr rfl (tP_i _) hS hlocks dX10_of_93
    have hf := ie_e c9 hf
    by_cases c12 : p1 = 3
    · have hf := it_e c12 hf
      refine lv_tableIn (tgt := 94) hx hb dX10_of_12 (by rw [c12]; decide) (by rw [c12]; decide) (by rw [c12]; rfl) (by decide) ?_
      refine lv_aload_n hx hb dX10_of_94 rfl (lv_at hl 0 rfl) ?_
      refine r_get (own := RX10) (T := TX10) (n := 9) (ci := 10) (v := .ref (ad 5)) hx hb hts nX10 hown hK hP (by omega) h0 rfl 1 (by decide) k0 rfl dX10_of_95 ?_
      refine r_getN (own := RX10) (T := TX7) (n := 16) (ci := 7) (v := .ref (ad 9)) hx hb hts nX7 hown hK hP (by omega) h5 rfl 3 (by decide) k6 rfl dX10_of_98 ?_
      refine lv_iload_n hx hb dX10_of_101 rfl (lv_at hl 1 rfl) ?_
      obtain ⟨i14, x13, ex13, hf⟩ := ri_e hf
      refine r_iald hx hb hK hP (by omega) h9 i14 dX10_of_102 ex13 ?_
      obtain rfl := Option.some.inj hf
      rw [← hQ]
      exact e_iR hx hb hr rfl (tP_i _) hS hlocks dX10_of_103
    have hf := ie_e c12 hf
    by_cases c15 : p1 = 4
    · have hf := it_e c15 hf
      refine lv_tableIn (tgt := 104) hx hb dX10_of_12 (by rw [c15]; decide) (by rw [c15]; decide) (by rw [c15]; rfl) (by decide) ?_
      refine lv_aload_n hx hb dX10_of_104 rfl (lv_at hl 0 rfl) ?_
      refine r_get (own := RX10) (T := TX10) (n := 9) (ci := 10) (v := .ref (ad 5)) hx hb hts nX10 hown hK hP (by omega) h0 rfl 1 (by decide) k0 rfl dX10_of_105 ?_
      refine r_getN (own := RX10) (T := TX7) (n := 16) (ci := 7) (v := .ref (ad 10)) hx hb hts nX7 hown hK hP (by omega) h5 rfl 4 (by decide) k7 rfl dX10_of_108 ?_
      refine lv_iload_n hx hb dX10_of_111 rfl (lv_at hl 1 rfl) ?_
      obtain ⟨i17, x16, ex16, hf⟩ := ri_e hf
      refine r_iald hx hb hK hP (by omega) h10 i17 dX10_of_112 ex16 ?_
      obtain rfl := Option.some.inj hf
      rw [← hQ]
      exact e_iR hx hb hr rfl (tP_i _) hS hlocks dX10_of_113
    have hf := ie_e c15 hf
    by_cases c18 : p1 = 5
    · have hf := it_e c18 hf
      refine lv_tableIn (tgt := 114) hx hb dX10_of_12 (by rw [c18]; decide) (by rw [c18]; decide) (by rw [c18]; rfl) (by decide) ?_
      refine lv_aload_n hx hb dX10_of_114 rfl (lv_at hl 0 rfl) ?_
      refine r_get (own := RX10) (T := TX10) (n := 9) (ci := 10) (v := .ref (ad 5)) hx hb hts nX10 hown hK hP (by omega) h0 rfl 1 (by decide) k0 rfl dX10_of_115 ?_
      refine r_getN (own := RX10) (T := TX7) (n := 16) (ci := 7) (v := .ref (ad 11)) hx hb hts nX7 hown hK hP (by omega) h5 rfl 5 (by decide) k8 rfl dX10_of_118 ?_
      refine lv_iload_n hx hb dX10_of_121 rfl (lv_at hl 1 rfl) ?_
      obtain ⟨i20, x19, ex19, hf⟩ := ri_e hf
      refine r_iald hx hb hK hP (by omega) h11 i20 dX10_of_122 ex19 ?_
      obtain rfl := Option.some.inj hf
      rw [← hQ]
      exact e_iR hx hb hr rfl (tP_i _) hS hlocks dX10_of_123
    have hf := ie_e c18 hf
    by_cases c21 : p1 = 6
    · have hf := it_e c21 hf
      refine lv_tableIn (tgt := 124) hx hb dX10_of_12 (by rw [c21]; decide) (by rw [c21]; decide) (by rw [c21]; rfl) (by decide) ?_
      refine lv_aload_n hx hb dX10_of_124 rfl (lv_at hl 0 rfl) ?_
      refine r_get (own := RX10) (T := TX10) (n := 9) (ci := 10) (v := .ref (ad 5)) hx hb hts nX10 hown hK hP (by omega) h0 rfl 1 (by decide) k0 rfl dX10_of_125 ?_
      refine r_getN (own := RX10) (T := TX7) (n := 16) (ci := 7) (v := .ref (ad 12)) hx hb hts nX7 hown hK hP (by omega) h5 rfl 6 (by decide) k9 rfl dX10_of_128 ?_
      refine lv_iload_n hx hb dX10_of_131 rfl (lv_at hl 1 rfl) ?_
      obtain ⟨i23, x22, ex22, hf⟩ := ri_e hf
      refine r_iald hx hb hK hP (by omega) h12 i23 dX10_of_132 ex22 ?_
      obtain rfl := Option.some.inj hf
      rw [← hQ]
      exact e_iR hx hb hr rfl (tP_i _) hS hlocks dX10_of_133
    have hf := ie_e c21 hf
    by_cases c24 : p1 = 7
    · have hf := it_e c24 hf
      refine lv_tableIn (tgt := 134) hx hb dX10_of_12 (by rw [c24]; decide) (by rw [c24]; decide) (by rw [c24]; rfl) (by decide) ?_
      refine lv_aload_n hx hb dX10_of_134 rfl (lv_at hl 0 rfl) ?_
      refine r_get (own := RX10) (T := TX10) (n := 9) (ci := 10) (v := .ref (ad 5)) hx hb hts nX10 hown hK hP (by omega) h0 rfl 1 (by decide) k0 rfl dX10_of_135 ?_
      refine r_getN (own := RX10) (T := TX7) (n := 16) (ci := 7) (v := .ref (ad 13)) hx hb hts nX7 hown hK hP (by omega) h5 rfl 7 (by decide) k10 rfl dX10_of_138 ?_
      refine lv_iload_n hx hb dX10_of_141 rfl (lv_at hl 1 rfl) ?_
      obtain ⟨i26, x25, ex25, hf⟩ := ri_e hf
      refine r_iald hx hb hK hP (by omega) h13 i26 dX10_of_142 ex25 ?_
      obtain rfl := Option.some.inj hf
      rw [← hQ]
      exact e_iR hx hb hr rfl (tP_i _) hS hlocks dX10_of_143
    have hf := ie_e c24 hf
    by_cases c27 : p1 = 8
    · have hf := it_e c27 hf
      refine lv_tableIn (tgt := 144) hx hb dX10_of_12 (by rw [c27]; decide) (by rw [c27]; decide) (by rw [c27]; rfl) (by decide) ?_
      refine lv_aload_n hx hb dX10_of_144 rfl (lv_at hl 0 rfl) ?_
      refine r_get (own := RX10) (T := TX10) (n := 9) (ci := 10) (v := .ref (ad 5)) hx hb hts nX10 hown hK hP (by omega) h0 rfl 1 (by decide) k0 rfl dX10_of_145 ?_
      refine r_getN (own := RX10) (T := TX7) (n := 16) (ci := 7) (v := .ref (ad 14)) hx hb hts nX7 hown hK hP (by omega) h5 rfl 8 (by decide) k11 rfl dX10_of_148 ?_
      refine lv_iload_n hx hb dX10_of_151 rfl (lv_at hl 1 rfl) ?_
      obtain ⟨i29, x28, ex28, hf⟩ := ri_e hf
      refine r_iald hx hb hK hP (by omega) h14 i29 dX10_of_152 ex28 ?_
      obtain rfl := Option.some.inj hf
      rw [← hQ]
      exact e_iR hx hb hr rfl (tP_i _) hS hlocks dX10_of_153
    have hf := ie_e c27 hf
    have hsw : Int32.toInt p1 < 0 ∨ 8 < Int32.toInt p1 := by
      have qc3 := ne_toInt c3
      rw [show Int32.toInt 0 = 0 from rfl] at qc3
      have qc6 := ne_toInt c6
      rw [show Int32.toInt 1 = 1 from rfl] at qc6
      have qc9 := ne_toInt c9
      rw [show Int32.toInt 2 = 2 from rfl] at qc9
      have qc12 := ne_toInt c12
      rw [show Int32.toInt 3 = 3 from rfl] at qc12
      have qc15 := ne_toInt c15
      rw [show Int32.toInt 4 = 4 from rfl] at qc15
      have qc18 := ne_toInt c18
      rw [show Int32.toInt 5 = 5 from rfl] at qc18
      have qc21 := ne_toInt c21
      rw [show Int32.toInt 6 = 6 from rfl] at qc21
      have qc24 := ne_toInt c24
      rw [show Int32.toInt 7 = 7 from rfl] at qc24
      have qc27 := ne_toInt c27
      rw [show Int32.toInt 8 = 8 from rfl] at qc27
      omega
    refine lv_tableOut (tgt := 154) hx hb dX10_of_12 hsw (by decide) ?_
    refine lv_bipush (v := (-3)) hx hb dX10_of_154 (by decide) ?_
    obtain rfl := Option.some.inj hf
    rw [← hQ]
    exact e_iR hx hb hr rfl (tP_i _) hS hlocks dX10_of_156
  · have hf := it_e c2 hf
    refine lv_bipush (v := (-2)) hx hb dX10_of_8 (by decide) ?_
    obtain rfl := Option.some.inj hf
    rw [← hQ]
    exact e_iR hx hb hr rfl (tP_i _) hS hlocks dX10_of_10

def f_X10_isCup (p0 : Int32) : Option (Int32) :=
  if p0 < 0 then
    some (0)
  else
    if 4 ≤ p0 then
      some (0)
    else
      some (1)
abbrev rmX10_isCup : Room := { frames := 0, cells := 0, slots := 0, locals := 0 }
set_option maxHeartbeats 4000000 in
set_option maxRecDepth 100000 in
theorem c_X10_isCup {l : Launch} {sz : Nat}  {p0 : Int32} {rr : Int32} (hf : f_X10_isCup p0 = some rr) : Met l yX10_isCup wsX10_isCup rmX10_isCup (PcS sz [.int p0]) (QiR sz bz rr) 0 0 (An sz) := by
  refine Met.ofW (cc := cX10_isCup) (maxL := 1) (ret := (some .boolean)) (by decide) rfl ?_
  intro p e s m args below meth c s₁ B hml hv
  obtain ⟨hav, hsz⟩ := hv
  subst hsz
  have hx := B.exec
  have hb := B.bytes
  have hr := B.returns
  have hts := atoms_spec (ws := wsX10_isCup) B.pre
  have hown : s.vm.findClass RX10 = some m.cls := findClass_of_methodNamed B.named
  have hlocks := B.notSynchronized
  generalize hQ : MQ below (QiR s.heap.size bz rr) args s 0 0 (An s.heap.size) = QQ
  have hS : va_S (An s.heap.size) s.heap s.heap [] := va_S.rf
  have hA : ∀ q, s.heap.size ≤ q → (An s.heap.size) q := fun q h => h
  have hE := lg_entry_eq m [.int p0] 1
  rw [← hav] at hE
  rw [hE]
  have hl := lv_entry [.int p0] (n := 1) (Nat.le_of_ble_eq_true rfl)
  generalize (lg_sl [.int p0] ++ List.replicate (1 - (lg_sl [.int p0]).length) Slot.unset).toArray = ls at hl ⊢
  have hl : lv_has ls 1 [(0, .int p0)] := hl
  clear hE
  unfold f_X10_isCup at hf
  suffices hgo : ∀ (H : Heap) (locs : List Loc), va_S (An s.heap.size) s.heap H locs → W p l e (headSpec wsX10_isCup rmX10_isCup).room s m args below meth c H locs 0 0 QQ (F0 m 0 ls []) from hgo s.heap [] hS
  clear hS
  intro H locs hS
  refine lv_iload_n hx hb dX10_isCup_0 rfl (lv_at hl 0 rfl) ?_
  refine lv_if_lt (tgt := 13) hx hb dX10_isCup_1 (by decide) (fun c1 => ?_) (fun c1 => ?_)
  · have hf := it_e c1 hf
    refine lv_iconst (v := 0) hx hb dX10_isCup_13 (by decide) ?_
    obtain rfl := Option.some.inj hf
    rw [← hQ]
    exact e_zR hx hb hr rfl bz0 hS hlocks dX10_isCup_14
  · have hf := ie_e c1 hf
    refine lv_iload_n hx hb dX10_isCup_4 rfl (lv_at hl 0 rfl) ?_
    refine lv_iconst (v := 4) hx hb dX10_isCup_5 (by decide) ?_
    refine lv_icmp_ge (tgt := 13) hx hb dX10_isCup_6 (by decide) (fun c2 => ?_) (fun c2 => ?_)
    · have hf := it_e c2 hf
      refine lv_iconst (v := 0) hx hb dX10_isCup_13 (by decide) ?_
      obtain rfl := Option.some.inj hf
      rw [← hQ]
      exact e_zR hx hb hr rfl bz0 hS hlocks dX10_isCup_14
    · have hf := ie_e c2 hf
      refine lv_iconst (v := 1) hx hb dX10_isCup_9 (by decide) ?_
      refine lv_goto (tgt := 14) hx hb dX10_isCup_10 (by decide) ?_
      obtain rfl := Option.some.inj hf
      rw [← hQ]
      exact e_zR hx hb hr rfl bz1 hS hlocks dX10_isCup_14

def f_X10_cup (p0 : Int32) (p1 : Int32) (t_tell : Nat → Int32) (t_wy : Nat → Int32) (t_wn : Nat → Int32) : Option (Int32) :=
  (f_X10_isCup p0).bind fun q1 =>
  if q1 = 0 then
    some ((-2))
  else
    if p1 = 0 then
      ri t_tell 4 (p0) fun x4 =>
      some (x4)
    else if p1 = 1 then
      ri t_wy 4 (p0) fun x7 =>
      some (x7)
    else if p1 = 2 then
      ri t_wn 4 (p0) fun x10 =>
      some (x10)
    else 
      some ((-3))
abbrev rmX10_cup : Room := { frames := 1, cells := 0, slots := 0, locals := 20 }
set_option maxHeartbeats 4000000 in
set_option maxRecDepth 100000 in
theorem c_X10_cup {l : Launch} {D : va_G} {g : Nat → ClassId} {N : Nat} {ad : Nat → Nat} {C : Nat → va_E} {sz : Nat} {t_there : Int32} {t_lift : Int32} {t_none : Int32} {t_tell : Nat → Int32} {t_wy : Nat → Int32} {t_wn : Nat → Int32} {p0 : Int32} {p1 : Int32} {rr : Int32} (hN : 86 ≤ N) (h0 : C 0 = .inr (10, [.ref (ad 1), .ref (ad 5), .ref (ad 19), .ref (ad 21), .ref (ad 60), .ref (ad 77), .ref (ad 81), .ref (ad 84), .ref (ad 85)])) (h5 : C 5 = .inr (7, [.ref (ad 6), .ref (ad 7), .ref (ad 8), .ref (ad 9), .ref (ad 10), .ref (ad 11), .ref (ad 12), .ref (ad 13), .ref (ad 14), .ref (ad 15), .ref (ad 16), .ref (ad 17), .ref (ad 18), .int t_there, .int t_lift, .int t_none])) (h16 : C 16 = aI g 4 t_tell) (h17 : C 17 = aI g 4 t_wy) (h18 : C 18 = aI g 4 t_wn) (hf : f_X10_cup p0 p1 t_tell t_wy t_wn = some rr) : Met l yX10_cup wsX10_cup rmX10_cup (PcW D g N ad C sz [.ref (ad 0), .int p0, .int p1]) (QiR sz tP rr) 0 0 (An sz) := by
  refine Met.ofW (cc := cX10_cup) (maxL := 3) (ret := (some .int)) (by decide) rfl ?_
  intro p e s m args below meth c s₁ B hml hv
  obtain ⟨hav, hsz, hK, hP⟩ := hv
  subst hsz
  have hx := B.exec
  have hb := B.bytes
  have hr := B.returns
  have hts := atoms_spec (ws := wsX10_cup) B.pre
  have hown : s.vm.findClass RX10 = some m.cls := findClass_of_methodNamed B.named
  have hlocks := B.notSynchronized
  generalize hQ : MQ below (QiR s.heap.size tP rr) args s 0 0 (An s.heap.size) = QQ
  have hS : va_S (An s.heap.size) s.heap s.heap [] := va_S.rf
  have hA : ∀ q, s.heap.size ≤ q → (An s.heap.size) q := fun q h => h
  have k0 := hts (.fieldLink RX10 19 "UpDrain" "plan" "LUpDrain$Town;") (List.mem_of_getElem? (i := 1) rfl)
  have nX10 : ∀ w ∈ u_ws RX10 TX10 9, w ∈ wsX10_cup := fun _ h => List.mem_cons_of_mem _ (List.mem_append_left _ (List.mem_append_right _ h))
  have k2 := nf_29 (A := args) hK
  have nX7 : ∀ w ∈ u_ws RX7 TX7 16, w ∈ wsX10_cup := fun _ h => List.mem_cons_of_mem _ (List.mem_append_right _ h)
  have k4 := nf_31 (A := args) hK
  have k5 := nf_34 (A := args) hK
  have hE := lg_entry_eq m [.ref (ad 0), .int p0, .int p1] 3
  rw [← hav] at hE
  rw [hE]
  have hl := lv_entry [.ref (ad 0), .int p0, .int p1] (n := 3) (Nat.le_of_ble_eq_true rfl)
  generalize (lg_sl [.ref (ad 0), .int p0, .int p1] ++ List.replicate (3 - (lg_sl [.ref (ad 0), .int p0, .int p1]).length) Slot.unset).toArray = ls at hl ⊢
  have hl : lv_has ls 3 [(0, .ref (ad 0)), (1, .int p0), (2, .int p1)] := hl
  clear hE
  unfold f_X10_cup at hf
  suffices hgo : ∀ (H : Heap) (locs : List Loc), va_P D vwCl (wd N ad C) H → va_S (An s.heap.size) s.heap H locs → W p l e (headSpec wsX10_cup rmX10_cup).room s m args below meth c H locs 0 0 QQ (F0 m 0 ls []) from hgo s.heap [] hP hS
  clear hS hP
  intro H locs hP hS
  refine lv_iload_n hx hb dX10_cup_0 rfl (lv_at hl 1 rfl) ?_
  obtain ⟨q1, hq1, hf⟩ := bd_e hf
  refine k_iR (va_runS (As := [.int p0]) (rest := []) ⟨hx, hb, hml, hown, hts⟩ (c_X10_isCup (l := l) (sz := H.size) (p0 := p0) hq1) (va_cwS 1 hts gX10_cup_X10_isCup rfl rfl rfl (by decide +kernel) ⟨Nat.le_of_ble_eq_true rfl, Nat.le_of_ble_eq_true rfl⟩) preS0 rfl rfl hl.1 rfl (lv_room (Nat.le_of_ble_eq_true rfl)) dX10_cup_1 ⟨Nat.le_of_ble_eq_true rfl, Nat.le_of_ble_eq_true rfl⟩) hA hP hS (fun H locs hP hS hbz_q1 => ?_)
  refine lv_if_ne (tgt := 10) hx hb dX10_cup_4 (by decide) (fun c2 => ?_) (fun c2 => ?_)
  · have hf := ie_e c2 hf
    refine lv_iload_n hx hb dX10_cup_10 rfl (lv_at hl 2 rfl) ?_
    by_cases c3 : p1 = 0
    · have hf := it_e c3 hf
      refine lv_tableIn (tgt := 36) hx hb dX10_cup_11 (by rw [c3]; decide) (by rw [c3]; decide) (by rw [c3]; rfl) (by decide) ?_
      refine lv_aload_n hx hb dX10_cup_36 rfl (lv_at hl 0 rfl) ?_
      refine r_get (own := RX10) (T := TX10) (n := 9) (ci := 10) (v := .ref (ad 5)) hx hb hts nX10 hown hK hP (by omega) h0 rfl 1 (by decide) k0 rfl dX10_cup_37 ?_
      refine r_getN (own := RX10) (T := TX7) (n := 16) (ci := 7) (v := .ref (ad 16)) hx hb hts nX7 hown hK hP (by omega) h5 rfl 10 (by decide) k2 rfl dX10_cup_40 ?_
      refine lv_iload_n hx hb dX10_cup_43 rfl (lv_at hl 1 rfl) ?_
      obtain ⟨i5, x4, ex4, hf⟩ := ri_e hf
      refine r_iald hx hb hK hP (by omega) h16 i5 dX10_cup_44 ex4 ?_
      obtain rfl := Option.some.inj hf
      rw [← hQ]
      exact e_iR hx hb hr rfl (tP_i _) hS hlocks dX10_cup_45
    have hf := ie_e c3 hf
    by_cases c6 : p1 = 1
    · have hf := it_e c6 hf
      refine lv_tableIn (tgt := 46) hx hb dX10_cup_11 (by rw [c6]; decide) (by rw [c6]; decide) (by rw [c6]; rfl) (by decide) ?_
      refine lv_aload_n hx hb dX10_cup_46 rfl (lv_at hl 0 rfl) ?_
      refine r_get (own := RX10) (T := TX10) (n := 9) (ci := 10) (v := .ref (ad 5)) hx hb hts nX10 hown hK hP (by omega) h0 rfl 1 (by decide) k0 rfl dX10_cup_47 ?_
      refine r_getN (own := RX10) (T := TX7) (n := 16) (ci := 7) (v := .ref (ad 17)) hx hb hts nX7 hown hK hP (by omega) h5 rfl 11 (by decide) k4 rfl dX10_cup_50 ?_
      refine lv_iload_n hx hb dX10_cup_53 rfl (lv_at hl 1 rfl) ?_
      obtain ⟨i8, x7, ex7, hf⟩ := ri_e hf
      refine r_iald hx hb hK hP (by omega) h17 i8 dX10_cup_54 ex7 ?_
      obtain rfl := Option.some.inj hf
      rw [← hQ]
      exact e_iR hx hb hr rfl (tP_i _) hS hlocks dX10_cup_55
    have hf := ie_e c6 hf
    by_cases c9 : p1 = 2
    · have hf := it_e c9 hf
      refine lv_tableIn (tgt := 56) hx hb dX10_cup_11 (by rw [c9]; decide) (by rw [c9]; decide) (by rw [c9]; rfl) (by decide) ?_
      refine lv_aload_n hx hb dX10_cup_56 rfl (lv_at hl 0 rfl) ?_
      refine r_get (own := RX10) (T := TX10) (n := 9) (ci := 10) (v := .ref (ad 5)) hx hb hts nX10 hown hK hP (by omega) h0 rfl 1 (by decide) k0 rfl dX10_cup_57 ?_
      refine r_getN (own := RX10) (T := TX7) (n := 16) (ci := 7) (v := .ref (ad 18)) hx hb hts nX7 hown hK hP (by omega) h5 rfl 12 (by decide) k5 rfl dX10_cup_60 ?_
      refine lv_iload_n hx hb dX10_cup_63 rfl (lv_at hl 1 rfl) ?_
      obtain ⟨i11, x10, ex10, hf⟩ := ri_e hf
      refine r_iald hx hb hK hP (by omega) h18 i11 dX10_cup_64 ex10 ?_
      obtain rfl := Option.some.inj hf
      rw [← hQ]
      exact e_iR hx hb hr rfl (tP_i _) hS hlocks dX10_cup_65
    have hf := ie_e c9 hf
    have hsw : Int32.toInt p1 < 0 ∨ 2 < Int32.toInt p1 := by
      have qc3 := ne_toInt c3
      rw [show Int32.toInt 0 = 0 from rfl] at qc3
      have qc6 := ne_toInt c6
      rw [show Int32.toInt 1 = 1 from rfl] at qc6
      have qc9 := ne_toInt c9
      rw [show Int32.toInt 2 = 2 from rfl] at qc9
      omega
    refine lv_tableOut (tgt := 66) hx hb dX10_cup_11 hsw (by decide) ?_
    refine lv_bipush (v := (-3)) hx hb dX10_cup_66 (by decide) ?_
    obtain rfl := Option.some.inj hf
    rw [← hQ]
    exact e_iR hx hb hr rfl (tP_i _) hS hlocks dX10_cup_68
  · have hf := it_e c2 hf
    refine lv_bipush (v := (-2)) hx hb dX10_cup_7 (by decide) ?_
    obtain rfl := Option.some.inj hf
    rw [← hQ]
    exact e_iR hx hb hr rfl (tP_i _) hS hlocks dX10_cup_9

def f_X10_above (p0 : Int32) (t_there : Int32) (w_over : Nat → Int32) : Option (Int32) :=
  (f_X10_isThere p0 t_there).bind fun q1 =>
  if q1 = 0 then
    some ((-2))
  else
    ri w_over 12 (p0) fun x3 =>
    some (x3)
abbrev rmX10_above : Room := { frames := 2, cells := 0, slots := 0, locals := 42 }
set_option maxHeartbeats 4000000 in
set_option maxRecDepth 100000 in
theorem c_X10_above {l : Launch} {D : va_G} {g : Nat → ClassId} {N : Nat} {ad : Nat → Nat} {C : Nat → va_E} {sz : Nat} {t_there : Int32} {t_lift : Int32} {t_none : Int32} {w_src : Int32} {w_over : Nat → Int32} {p0 : Int32} {rr : Int32} (hN : 86 ≤ N) (h0 : C 0 = .inr (10, [.ref (ad 1), .ref (ad 5), .ref (ad 19), .ref (ad 21), .ref (ad 60), .ref (ad 77), .ref (ad 81), .ref (ad 84), .ref (ad 85)])) (h5 : C 5 = .inr (7, [.ref (ad 6), .ref (ad 7), .ref (ad 8), .ref (ad 9), .ref (ad 10), .ref (ad 11), .ref (ad 12), .ref (ad 13), .ref (ad 14), .ref (ad 15), .ref (ad 16), .ref (ad 17), .ref (ad 18), .int t_there, .int t_lift, .int t_none])) (h19 : C 19 = .inr (9, [.ref (ad 5), .ref (ad 20), .int w_src])) (h20 : C 20 = aI g 12 w_over) (hf : f_X10_above p0 t_there w_over = some rr) : Met l yX10_above wsX10_above rmX10_above (PcW D g N ad C sz [.ref (ad 0), .int p0]) (QiR sz tP rr) 0 0 (An sz) := by
  refine Met.ofW (cc := cX10_above) (maxL := 2) (ret := (some .int)) (by decide) rfl ?_
  intro p e s m args below meth c s₁ B hml hv
  obtain ⟨hav, hsz, hK, hP⟩ := hv
  subst hsz
  have hx := B.exec
  have hb := B.bytes
  have hr := B.returns
  have hts := atoms_spec (ws := wsX10_above) B.pre
  have hown : s.vm.findClass RX10 = some m.cls := findClass_of_methodNamed B.named
  have hlocks := B.notSynchronized
  generalize hQ : MQ below (QiR s.heap.size tP rr) args s 0 0 (An s.heap.size) = QQ
  have hS : va_S (An s.heap.size) s.heap s.heap [] := va_S.rf
  have hA : ∀ q, s.heap.size ≤ q → (An s.heap.size) q := fun q h => h
  have k0 := hts (.fieldLink RX10 28 "UpDrain" "ways" "LUpDrain$Ways;") (List.mem_of_getElem? (i := 1) rfl)
  have nX10 : ∀ w ∈ u_ws RX10 TX10 9, w ∈ wsX10_above := fun _ h => List.mem_cons_of_mem _ (List.mem_append_left _ (List.mem_append_left _ (List.mem_append_right _ h)))
  have k2 := nf_50 (A := args) hK
  have nX9 : ∀ w ∈ u_ws RX9 TX9 3, w ∈ wsX10_above := fun _ h => List.mem_cons_of_mem _ (List.mem_append_left _ (List.mem_append_right _ h))
  have hE := lg_entry_eq m [.ref (ad 0), .int p0] 2
  rw [← hav] at hE
  rw [hE]
  have hl := lv_entry [.ref (ad 0), .int p0] (n := 2) (Nat.le_of_ble_eq_true rfl)
  generalize (lg_sl [.ref (ad 0), .int p0] ++ List.replicate (2 - (lg_sl [.ref (ad 0), .int p0]).length) Slot.unset).toArray = ls at hl ⊢
  have hl : lv_has ls 2 [(0, .ref (ad 0)), (1, .int p0)] := hl
  clear hE
  unfold f_X10_above at hf
  suffices hgo : ∀ (H : Heap) (locs : List Loc), va_P D vwCl (wd N ad C) H → va_S (An s.heap.size) s.heap H locs → W p l e (headSpec wsX10_above rmX10_above).room s m args below meth c H locs 0 0 QQ (F0 m 0 ls []) from hgo s.heap [] hP hS
  clear hS hP
  intro H locs hP hS
  refine lv_aload_n hx hb dX10_above_0 rfl (lv_at hl 0 rfl) ?_
  refine lv_iload_n hx hb dX10_above_1 rfl (lv_at hl 1 rfl) ?_
  obtain ⟨q1, hq1, hf⟩ := bd_e hf
  refine k_iR (va_runV (C := RX10) (As := [.int p0]) (rest := []) ⟨hx, hb, hml, hown, hts⟩ (c_X10_isThere (l := l) (sz := H.size) (p0 := p0) hN h0 h5 hq1) (cwV 1 hts gX10_above_X10_isThere rfl rfl rfl (by decide +kernel) ⟨Nat.le_of_ble_eq_true rfl, Nat.le_of_ble_eq_true rfl⟩) (preV_of hK hP (by omega) h0 rfl) rfl rfl hl.1 rfl (lv_room (Nat.le_of_ble_eq_true rfl)) dX10_above_2 ⟨Nat.le_of_ble_eq_true rfl, Nat.le_of_ble_eq_true rfl⟩) hA hP hS (fun H locs hP hS hbz_q1 => ?_)
  refine lv_if_eq (tgt := 20) hx hb dX10_above_5 (by decide) (fun c2 => ?_) (fun c2 => ?_)
  · have hf := it_e c2 hf
    refine lv_bipush (v := (-2)) hx hb dX10_above_20 (by decide) ?_
    obtain rfl := Option.some.inj hf
    rw [← hQ]
    exact e_iR hx hb hr rfl (tP_i _) hS hlocks dX10_above_22
  · have hf := ie_e c2 hf
    refine lv_aload_n hx hb dX10_above_8 rfl (lv_at hl 0 rfl) ?_
    refine r_get (own := RX10) (T := TX10) (n := 9) (ci := 10) (v := .ref (ad 19)) hx hb hts nX10 hown hK hP (by omega) h0 rfl 2 (by decide) k0 rfl dX10_above_9 ?_
    refine r_getN (own := RX10) (T := TX9) (n := 3) (ci := 9) (v := .ref (ad 20)) hx hb hts nX9 hown hK hP (by omega) h19 rfl 1 (by decide) k2 rfl dX10_above_12 ?_
    refine lv_iload_n hx hb dX10_above_15 rfl (lv_at hl 1 rfl) ?_
    obtain ⟨i4, x3, ex3, hf⟩ := ri_e hf
    refine r_iald hx hb hK hP (by omega) h20 i4 dX10_above_16 ex3 ?_
    refine lv_goto (tgt := 22) hx hb dX10_above_17 (by decide) ?_
    obtain rfl := Option.some.inj hf
    rw [← hQ]
    exact e_iR hx hb hr rfl (tP_i _) hS hlocks dX10_above_22

def f_X10_walk (p0 : Int32) (p1 : Int32) (t_down : Nat → Int32) (t_pac : Nat → Int32) (t_there : Int32) : Option (Int32) :=
  (f_X10_isThere p0 t_there).bind fun q1 =>
  if q1 = 0 then
    some ((-2))
  else
    (f_X10_isThere p1 t_there).bind fun q3 =>
    if q3 = 0 then
      some ((-2))
    else
      (f_X9_minutesBetween p0 p1 t_down t_pac).bind fun q5 =>
      some (q5)
abbrev rmX10_walk : Room := { frames := 2, cells := 0, slots := 0, locals := 42 }
set_option maxHeartbeats 4000000 in
set_option maxRecDepth 100000 in
theorem c_X10_walk {l : Launch} {D : va_G} {g : Nat → ClassId} {N : Nat} {ad : Nat → Nat} {C : Nat → va_E} {sz : Nat} {t_there : Int32} {t_lift : Int32} {t_none : Int32} {t_down : Nat → Int32} {t_pac : Nat → Int32} {w_src : Int32} {p0 : Int32} {p1 : Int32} {rr : Int32} (hN : 86 ≤ N) (h0 : C 0 = .inr (10, [.ref (ad 1), .ref (ad 5), .ref (ad 19), .ref (ad 21), .ref (ad 60), .ref (ad 77), .ref (ad 81), .ref (ad 84), .ref (ad 85)])) (h5 : C 5 = .inr (7, [.ref (ad 6), .ref (ad 7), .ref (ad 8), .ref (ad 9), .ref (ad 10), .ref (ad 11), .ref (ad 12), .ref (ad 13), .ref (ad 14), .ref (ad 15), .ref (ad 16), .ref (ad 17), .ref (ad 18), .int t_there, .int t_lift, .int t_none])) (h6 : C 6 = aI g 12 t_down) (h8 : C 8 = aI g 12 t_pac) (h19 : C 19 = .inr (9, [.ref (ad 5), .ref (ad 20), .int w_src])) (hf : f_X10_walk p0 p1 t_down t_pac t_there = some rr) : Met l yX10_walk wsX10_walk rmX10_walk (PcW D g N ad C sz [.ref (ad 0), .int p0, .int p1]) (QiR sz tP rr) 0 0 (An sz) := by
  refine Met.ofW (cc := cX10_walk) (maxL := 3) (ret := (some .int)) (by decide) rfl ?_
  intro p e s m args below meth c s₁ B hml hv
  obtain ⟨hav, hsz, hK, hP⟩ := hv
  subst hsz
  have hx := B.exec
  have hb := B.bytes
  have hr := B.returns
  have hts := atoms_spec (ws := wsX10_walk) B.pre
  have hown : s.vm.findClass RX10 = some m.cls := findClass_of_methodNamed B.named
  have hlocks := B.notSynchronized
  generalize hQ : MQ below (QiR s.heap.size tP rr) args s 0 0 (An s.heap.size) = QQ
  have hS : va_S (An s.heap.size) s.heap s.heap [] := va_S.rf
  have hA : ∀ q, s.heap.size ≤ q → (An s.heap.size) q := fun q h => h
  have k0 := hts (.fieldLink RX10 28 "UpDrain" "ways" "LUpDrain$Ways;") (List.mem_of_getElem? (i := 1) rfl)
  have nX10 : ∀ w ∈ u_ws RX10 TX10 9, w ∈ wsX10_walk := fun _ h => List.mem_cons_of_mem _ (List.mem_append_left _ (List.mem_append_left _ (List.mem_append_right _ h)))
  have hE := lg_entry_eq m [.ref (ad 0), .int p0, .int p1] 3
  rw [← hav] at hE
  rw [hE]
  have hl := lv_entry [.ref (ad 0), .int p0, .int p1] (n := 3) (Nat.le_of_ble_eq_true rfl)
  generalize (lg_sl [.ref (ad 0), .int p0, .int p1] ++ List.replicate (3 - (lg_sl [.ref (ad 0), .int p0, .int p1]).length) Slot.unset).toArray = ls at hl ⊢
  have hl : lv_has ls 3 [(0, .ref (ad 0)), (1, .int p0), (2, .int p1)] := hl
  clear hE
  unfold f_X10_walk at hf
  suffices hgo : ∀ (H : Heap) (locs : List Loc), va_P D vwCl (wd N ad C) H → va_S (An s.heap.size) s.heap H locs → W p l e (headSpec wsX10_walk rmX10_walk).room s m args below meth c H locs 0 0 QQ (F0 m 0 ls []) from hgo s.heap [] hP hS
  clear hS hP
  intro H locs hP hS
  refine lv_aload_n hx hb dX10_walk_0 rfl (lv_at hl 0 rfl) ?_
  refine lv_iload_n hx hb dX10_walk_1 rfl (lv_at hl 1 rfl) ?_
  obtain ⟨q1, hq1, hf⟩ := bd_e hf
  refine k_iR (va_runV (C := RX10) (As := [.int p0]) (rest := []) ⟨hx, hb, hml, hown, hts⟩ (c_X10_isThere (l := l) (sz := H.size) (p0 := p0) hN h0 h5 hq1) (cwV 1 hts gX10_walk_X10_isThere rfl rfl rfl (by decide +kernel) ⟨Nat.le_of_ble_eq_true rfl, Nat.le_of_ble_eq_true rfl⟩) (preV_of hK hP (by omega) h0 rfl) rfl rfl hl.1 rfl (lv_room (Nat.le_of_ble_eq_true rfl)) dX10_walk_2 ⟨Nat.le_of_ble_eq_true rfl, Nat.le_of_ble_eq_true rfl⟩) hA hP hS (fun H locs hP hS hbz_q1 => ?_)
  refine lv_if_eq (tgt := 28) hx hb dX10_walk_5 (by decide) (fun c2 => ?_) (fun c2 => ?_)
  · have hf := it_e c2 hf
    refine lv_bipush (v := (-2)) hx hb dX10_walk_28 (by decide) ?_
    obtain rfl := Option.some.inj hf
    rw [← hQ]
    exact e_iR hx hb hr rfl (tP_i _) hS hlocks dX10_walk_30
  · have hf := ie_e c2 hf
    refine lv_aload_n hx hb dX10_walk_8 rfl (lv_at hl 0 rfl) ?_
    refine lv_iload_n hx hb dX10_walk_9 rfl (lv_at hl 2 rfl) ?_
    obtain ⟨q3, hq3, hf⟩ := bd_e hf
    refine k_iR (va_runV (C := RX10) (As := [.int p1]) (rest := []) ⟨hx, hb, hml, hown, hts⟩ (c_X10_isThere (l := l) (sz := H.size) (p0 := p1) hN h0 h5 hq3) (cwV 1 hts gX10_walk_X10_isThere rfl rfl rfl (by decide +kernel) ⟨Nat.le_of_ble_eq_true rfl, Nat.le_of_ble_eq_true rfl⟩) (preV_of hK hP (by omega) h0 rfl) rfl rfl hl.1 rfl (lv_room (Nat.le_of_ble_eq_true rfl)) dX10_walk_10 ⟨Nat.le_of_ble_eq_true rfl, Nat.le_of_ble_eq_true rfl⟩) hA hP hS (fun H locs hP hS hbz_q3 => ?_)
    refine lv_if_eq (tgt := 28) hx hb dX10_walk_13 (by decide) (fun c4 => ?_) (fun c4 => ?_)
    · have hf := it_e c4 hf
      refine lv_bipush (v := (-2)) hx hb dX10_walk_28 (by decide) ?_
      obtain rfl := Option.some.inj hf
      rw [← hQ]
      exact e_iR hx hb hr rfl (tP_i _) hS hlocks dX10_walk_30
    · have hf := ie_e c4 hf
      refine lv_aload_n hx hb dX10_walk_16 rfl (lv_at hl 0 rfl) ?_
      refine r_get (own := RX10) (T := TX10) (n := 9) (ci := 10) (v := .ref (ad 19)) hx hb hts nX10 hown hK hP (by omega) h0 rfl 2 (by decide) k0 rfl dX10_walk_17 ?_
      refine lv_iload_n hx hb dX10_walk_20 rfl (lv_at hl 1 rfl) ?_
      refine lv_iload_n hx hb dX10_walk_21 rfl (lv_at hl 2 rfl) ?_
      obtain ⟨q5, hq5, hf⟩ := bd_e hf
      refine k_iR (va_runV (C := RX9) (As := [.int p0, .int p1]) (rest := []) ⟨hx, hb, hml, hown, hts⟩ (c_X9_minutesBetween (l := l) (sz := H.size) (p0 := p0) (p1 := p1) hN h5 h6 h8 h19 hq5) (cwV 2 hts gX10_walk_X9_minutesBetween rfl rfl rfl (by decide +kernel) ⟨Nat.le_of_ble_eq_true rfl, Nat.le_of_ble_eq_true rfl⟩) (preV_of hK hP (by omega) h19 rfl) rfl rfl hl.1 rfl (lv_room (Nat.le_of_ble_eq_true rfl)) dX10_walk_22 ⟨Nat.le_of_ble_eq_true rfl, Nat.le_of_ble_eq_true rfl⟩) hA hP hS (fun H locs hP hS hbz_q5 => ?_)
      refine lv_goto (tgt := 30) hx hb dX10_walk_25 (by decide) ?_
      obtain rfl := Option.some.inj hf
      rw [← hQ]
      exact e_iR hx hb hr rfl (tP_i _) hS hlocks dX10_walk_30

def f_X10_flow (p0 : Int32) (p1 : Int32) (t_rain : Nat → Int32) (t_there : Int32) (wa_g : Nat → Int32) : Option (Int32) :=
  (f_X10_isThere p0 t_there).bind fun q1 =>
  if q1 = 0 then
    some ((-2))
  else
    if p1 < 0 then
      some ((-3))
    else
      if p1 < 24 then
        (f_X8_flowAt p0 p1 t_rain wa_g).bind fun q5 =>
        some (q5)
      else
        some ((-3))
abbrev rmX10_flow : Room := { frames := 2, cells := 0, slots := 0, locals := 42 }
set_option maxHeartbeats 4000000 in
set_option maxRecDepth 100000 in
theorem c_X10_flow {l : Launch} {D : va_G} {g : Nat → ClassId} {N : Nat} {ad : Nat → Nat} {C : Nat → va_E} {sz : Nat} {t_there : Int32} {t_lift : Int32} {t_none : Int32} {t_rain : Nat → Int32} {wa_g : Nat → Int32} {p0 : Int32} {p1 : Int32} {rr : Int32} (hN : 86 ≤ N) (h0 : C 0 = .inr (10, [.ref (ad 1), .ref (ad 5), .ref (ad 19), .ref (ad 21), .ref (ad 60), .ref (ad 77), .ref (ad 81), .ref (ad 84), .ref (ad 85)])) (h5 : C 5 = .inr (7, [.ref (ad 6), .ref (ad 7), .ref (ad 8), .ref (ad 9), .ref (ad 10), .ref (ad 11), .ref (ad 12), .ref (ad 13), .ref (ad 14), .ref (ad 15), .ref (ad 16), .ref (ad 17), .ref (ad 18), .int t_there, .int t_lift, .int t_none])) (h15 : C 15 = aI g 24 t_rain) (h21 : C 21 = .inr (8, [.ref (ad 5), .ref (ad 19), .ref (ad 22), .ref (ad 23)])) (h22 : C 22 = aI g 12 wa_g) (hf : f_X10_flow p0 p1 t_rain t_there wa_g = some rr) : Met l yX10_flow wsX10_flow rmX10_flow (PcW D g N ad C sz [.ref (ad 0), .int p0, .int p1]) (QiR sz tP rr) 0 0 (An sz) := by
  refine Met.ofW (cc := cX10_flow) (maxL := 3) (ret := (some .int)) (by decide) rfl ?_
  intro p e s m args below meth c s₁ B hml hv
  obtain ⟨hav, hsz, hK, hP⟩ := hv
  subst hsz
  have hx := B.exec
  have hb := B.bytes
  have hr := B.returns
  have hts := atoms_spec (ws := wsX10_flow) B.pre
  have hown : s.vm.findClass RX10 = some m.cls := findClass_of_methodNamed B.named
  have hlocks := B.notSynchronized
  generalize hQ : MQ below (QiR s.heap.size tP rr) args s 0 0 (An s.heap.size) = QQ
  have hS : va_S (An s.heap.size) s.heap s.heap [] := va_S.rf
  have hA : ∀ q, s.heap.size ≤ q → (An s.heap.size) q := fun q h => h
  have k0 := hts (.fieldLink RX10 37 "UpDrain" "water" "LUpDrain$Water;") (List.mem_of_getElem? (i := 1) rfl)
  have nX10 : ∀ w ∈ u_ws RX10 TX10 9, w ∈ wsX10_flow := fun _ h => List.mem_cons_of_mem _ (List.mem_append_left _ (List.mem_append_left _ (List.mem_append_right _ h)))
  have hE := lg_entry_eq m [.ref (ad 0), .int p0, .int p1] 3
  rw [← hav] at hE
  rw [hE]
  have hl := lv_entry [.ref (ad 0), .int p0, .int p1] (n := 3) (Nat.le_of_ble_eq_true rfl)
  generalize (lg_sl [.ref (ad 0), .int p0, .int p1] ++ List.replicate (3 - (lg_sl [.ref (ad 0), .int p0, .int p1]).length) Slot.unset).toArray = ls at hl ⊢
  have hl : lv_has ls 3 [(0, .ref (ad 0)), (1, .int p0), (2, .int p1)] := hl
  clear hE
  unfold f_X10_flow at hf
  suffices hgo : ∀ (H : Heap) (locs : List Loc), va_P D vwCl (wd N ad C) H → va_S (An s.heap.size) s.heap H locs → W p l e (headSpec wsX10_flow rmX10_flow).room s m args below meth c H locs 0 0 QQ (F0 m 0 ls []) from hgo s.heap [] hP hS
  clear hS hP
  intro H locs hP hS
  refine lv_aload_n hx hb dX10_flow_0 rfl (lv_at hl 0 rfl) ?_
  refine lv_iload_n hx hb dX10_flow_1 rfl (lv_at hl 1 rfl) ?_
  obtain ⟨q1, hq1, hf⟩ := bd_e hf
  refine k_iR (va_runV (C := RX10) (As := [.int p0]) (rest := []) ⟨hx, hb, hml, hown, hts⟩ (c_X10_isThere (l := l) (sz := H.size) (p0 := p0) hN h0 h5 hq1) (cwV 1 hts gX10_flow_X10_isThere rfl rfl rfl (by decide +kernel) ⟨Nat.le_of_ble_eq_true rfl, Nat.le_of_ble_eq_true rfl⟩) (preV_of hK hP (by omega) h0 rfl) rfl rfl hl.1 rfl (lv_room (Nat.le_of_ble_eq_true rfl)) dX10_flow_2 ⟨Nat.le_of_ble_eq_true rfl, Nat.le_of_ble_eq_true rfl⟩) hA hP hS (fun H locs hP hS hbz_q1 => ?_)
  refine lv_if_ne (tgt := 11) hx hb dX10_flow_5 (by decide) (fun c2 => ?_) (fun c2 => ?_)
  · have hf := ie_e c2 hf
    refine lv_iload_n hx hb dX10_flow_11 rfl (lv_at hl 2 rfl) ?_
    refine lv_if_lt (tgt := 21) hx hb dX10_flow_12 (by decide) (fun c3 => ?_) (fun c3 => ?_)
    · have hf := it_e c3 hf
      refine lv_bipush (v := (-3)) hx hb dX10_flow_21 (by decide) ?_
      obtain rfl := Option.some.inj hf
      rw [← hQ]
      exact e_iR hx hb hr rfl (tP_i _) hS hlocks dX10_flow_23
    · have hf := ie_e c3 hf
      refine lv_iload_n hx hb dX10_flow_15 rfl (lv_at hl 2 rfl) ?_
      refine lv_bipush (v := 24) hx hb dX10_flow_16 (by decide) ?_
      refine lv_icmp_lt (tgt := 24) hx hb dX10_flow_18 (by decide) (fun c4 => ?_) (fun c4 => ?_)
      · have hf := it_e c4 hf
        refine lv_aload_n hx hb dX10_flow_24 rfl (lv_at hl 0 rfl) ?_
        refine r_get (own := RX10) (T := TX10) (n := 9) (ci := 10) (v := .ref (ad 21)) hx hb hts nX10 hown hK hP (by omega) h0 rfl 3 (by decide) k0 rfl dX10_flow_25 ?_
        refine lv_iload_n hx hb dX10_flow_28 rfl (lv_at hl 1 rfl) ?_
        refine lv_iload_n hx hb dX10_flow_29 rfl (lv_at hl 2 rfl) ?_
        obtain ⟨q5, hq5, hf⟩ := bd_e hf
        refine k_iR (va_runV (C := RX8) (As := [.int p0, .int p1]) (rest := []) ⟨hx, hb, hml, hown, hts⟩ (c_X8_flowAt (l := l) (sz := H.size) (p0 := p0) (p1 := p1) hN h5 h15 h21 h22 hq5) (cwV 2 hts gX10_flow_X8_flowAt rfl rfl rfl (by decide +kernel) ⟨Nat.le_of_ble_eq_true rfl, Nat.le_of_ble_eq_true rfl⟩) (preV_of hK hP (by omega) h21 rfl) rfl rfl hl.1 rfl (lv_room (Nat.le_of_ble_eq_true rfl)) dX10_flow_30 ⟨Nat.le_of_ble_eq_true rfl, Nat.le_of_ble_eq_true rfl⟩) hA hP hS (fun H locs hP hS hbz_q5 => ?_)
        obtain rfl := Option.some.inj hf
        rw [← hQ]
        exact e_iR hx hb hr rfl (tP_i _) hS hlocks dX10_flow_33
      · have hf := ie_e c4 hf
        refine lv_bipush (v := (-3)) hx hb dX10_flow_21 (by decide) ?_
        obtain rfl := Option.some.inj hf
        rw [← hQ]
        exact e_iR hx hb hr rfl (tP_i _) hS hlocks dX10_flow_23
  · have hf := it_e c2 hf
    refine lv_bipush (v := (-2)) hx hb dX10_flow_8 (by decide) ?_
    obtain rfl := Option.some.inj hf
    rw [← hQ]
    exact e_iR hx hb hr rfl (tP_i _) hS hlocks dX10_flow_10

def f_X10_isMinute (p0 : Int32) : Option (Int32) :=
  if p0 < 0 then
    some (0)
  else
    if 1440 ≤ p0 then
      some (0)
    else
      some (1)
abbrev rmX10_isMinute : Room := { frames := 0, cells := 0, slots := 0, locals := 0 }
set_option maxHeartbeats 4000000 in
set_option maxRecDepth 100000 in
theorem c_X10_isMinute {l : Launch} {sz : Nat}  {p0 : Int32} {rr : Int32} (hf : f_X10_isMinute p0 = some rr) : Met l yX10_isMinute wsX10_isMinute rmX10_isMinute (PcS sz [.int p0]) (QiR sz bz rr) 0 0 (An sz) := by
  refine Met.ofW (cc := cX10_isMinute) (maxL := 1) (ret := (some .boolean)) (by decide) rfl ?_
  intro p e s m args below meth c s₁ B hml hv
  obtain ⟨hav, hsz⟩ := hv
  subst hsz
  have hx := B.exec
  have hb := B.bytes
  have hr := B.returns
  have hts := atoms_spec (ws := wsX10_isMinute) B.pre
  have hown : s.vm.findClass RX10 = some m.cls := findClass_of_methodNamed B.named
  have hlocks := B.notSynchronized
  generalize hQ : MQ below (QiR s.heap.size bz rr) args s 0 0 (An s.heap.size) = QQ
  have hS : va_S (An s.heap.size) s.heap s.heap [] := va_S.rf
  have hA : ∀ q, s.heap.size ≤ q → (An s.heap.size) q := fun q h => h
  have hE := lg_entry_eq m [.int p0] 1
  rw [← hav] at hE
  rw [hE]
  have hl := lv_entry [.int p0] (n := 1) (Nat.le_of_ble_eq_true rfl)
  generalize (lg_sl [.int p0] ++ List.replicate (1 - (lg_sl [.int p0]).length) Slot.unset).toArray = ls at hl ⊢
  have hl : lv_has ls 1 [(0, .int p0)] := hl
  clear hE
  unfold f_X10_isMinute at hf
  suffices hgo : ∀ (H : Heap) (locs : List Loc), va_S (An s.heap.size) s.heap H locs → W p l e (headSpec wsX10_isMinute rmX10_isMinute).room s m args below meth c H locs 0 0 QQ (F0 m 0 ls []) from hgo s.heap [] hS
  clear hS
  intro H locs hS
  refine lv_iload_n hx hb dX10_isMinute_0 rfl (lv_at hl 0 rfl) ?_
  refine lv_if_lt (tgt := 15) hx hb dX10_isMinute_1 (by decide) (fun c1 => ?_) (fun c1 => ?_)
  · have hf := it_e c1 hf
    refine lv_iconst (v := 0) hx hb dX10_isMinute_15 (by decide) ?_
    obtain rfl := Option.some.inj hf
    rw [← hQ]
    exact e_zR hx hb hr rfl bz0 hS hlocks dX10_isMinute_16
  · have hf := ie_e c1 hf
    refine lv_iload_n hx hb dX10_isMinute_4 rfl (lv_at hl 0 rfl) ?_
    refine lv_sipush (v := 1440) hx hb dX10_isMinute_5 (by decide) ?_
    refine lv_icmp_ge (tgt := 15) hx hb dX10_isMinute_8 (by decide) (fun c2 => ?_) (fun c2 => ?_)
    · have hf := it_e c2 hf
      refine lv_iconst (v := 0) hx hb dX10_isMinute_15 (by decide) ?_
      obtain rfl := Option.some.inj hf
      rw [← hQ]
      exact e_zR hx hb hr rfl bz0 hS hlocks dX10_isMinute_16
    · have hf := ie_e c2 hf
      refine lv_iconst (v := 1) hx hb dX10_isMinute_11 (by decide) ?_
      refine lv_goto (tgt := 16) hx hb dX10_isMinute_12 (by decide) ?_
      obtain rfl := Option.some.inj hf
      rw [← hQ]
      exact e_zR hx hb hr rfl bz1 hS hlocks dX10_isMinute_16

def f_X10_isPart (p0 : Int32) : Option (Int32) :=
  if p0 = 0 then
    some (1)
  else
    if p0 = 1 then
      some (1)
    else
      some (0)
abbrev rmX10_isPart : Room := { frames := 0, cells := 0, slots := 0, locals := 0 }
set_option maxHeartbeats 4000000 in
set_option maxRecDepth 100000 in
theorem c_X10_isPart {l : Launch} {sz : Nat}  {p0 : Int32} {rr : Int32} (hf : f_X10_isPart p0 = some rr) : Met l yX10_isPart wsX10_isPart rmX10_isPart (PcS sz [.int p0]) (QiR sz bz rr) 0 0 (An sz) := by
  refine Met.ofW (cc := cX10_isPart) (maxL := 1) (ret := (some .boolean)) (by decide) rfl ?_
  intro p e s m args below meth c s₁ B hml hv
  obtain ⟨hav, hsz⟩ := hv
  subst hsz
  have hx := B.exec
  have hb := B.bytes
  have hr := B.returns
  have hts := atoms_spec (ws := wsX10_isPart) B.pre
  have hown : s.vm.findClass RX10 = some m.cls := findClass_of_methodNamed B.named
  have hlocks := B.notSynchronized
  generalize hQ : MQ below (QiR s.heap.size bz rr) args s 0 0 (An s.heap.size) = QQ
  have hS : va_S (An s.heap.size) s.heap s.heap [] := va_S.rf
  have hA : ∀ q, s.heap.size ≤ q → (An s.heap.size) q := fun q h => h
  have hE := lg_entry_eq m [.int p0] 1
  rw [← hav] at hE
  rw [hE]
  have hl := lv_entry [.int p0] (n := 1) (Nat.le_of_ble_eq_true rfl)
  generalize (lg_sl [.int p0] ++ List.replicate (1 - (lg_sl [.int p0]).length) Slot.unset).toArray = ls at hl ⊢
  have hl : lv_has ls 1 [(0, .int p0)] := hl
  clear hE
  unfold f_X10_isPart at hf
  suffices hgo : ∀ (H : Heap) (locs : List Loc), va_S (An s.heap.size) s.heap H locs → W p l e (headSpec wsX10_isPart rmX10_isPart).room s m args below meth c H locs 0 0 QQ (F0 m 0 ls []) from hgo s.heap [] hS
  clear hS
  intro H locs hS
  refine lv_iload_n hx hb dX10_isPart_0 rfl (lv_at hl 0 rfl) ?_
  refine lv_if_eq (tgt := 9) hx hb dX10_isPart_1 (by decide) (fun c1 => ?_) (fun c1 => ?_)
  · have hf := it_e c1 hf
    refine lv_iconst (v := 1) hx hb dX10_isPart_9 (by decide) ?_
    refine lv_goto (tgt := 14) hx hb dX10_isPart_10 (by decide) ?_
    obtain rfl := Option.some.inj hf
    rw [← hQ]
    exact e_zR hx hb hr rfl bz1 hS hlocks dX10_isPart_14
  · have hf := ie_e c1 hf
    refine lv_iload_n hx hb dX10_isPart_4 rfl (lv_at hl 0 rfl) ?_
    refine lv_iconst (v := 1) hx hb dX10_isPart_5 (by decide) ?_
    refine lv_icmp_ne (tgt := 13) hx hb dX10_isPart_6 (by decide) (fun c2 => ?_) (fun c2 => ?_)
    · have hf := ie_e c2 hf
      refine lv_iconst (v := 0) hx hb dX10_isPart_13 (by decide) ?_
      obtain rfl := Option.some.inj hf
      rw [← hQ]
      exact e_zR hx hb hr rfl bz0 hS hlocks dX10_isPart_14
    · have hf := it_e c2 hf
      refine lv_iconst (v := 1) hx hb dX10_isPart_9 (by decide) ?_
      refine lv_goto (tgt := 14) hx hb dX10_isPart_10 (by decide) ?_
      obtain rfl := Option.some.inj hf
      rw [← hQ]
      exact e_zR hx hb hr rfl bz1 hS hlocks dX10_isPart_14

def f_X10_comes (p0 : Int32) (p1 : Int32) (p2 : Int32) (p3 : Int32) (t_rain : Nat → Int32) (t_there : Int32) (wa_g : Nat → Int32) (sL : Nat → Nat → Int32) (sT : Nat → Nat → Int32) (sF : Nat → Int32) (sU : Nat → Int32) : Option (Int32) :=
  (f_X10_isThere p0 t_there).bind fun q1 =>
  if q1 = 0 then
    some ((-2))
  else
    (f_X10_isThere p1 t_there).bind fun q3 =>
    if q3 = 0 then
      some ((-2))
    else
      (f_X10_isMinute p2).bind fun q5 =>
      if q5 = 0 then
        some ((-3))
      else
        (f_X10_isPart p3).bind fun q7 =>
        if q7 = 0 then
          some ((-3))
        else
          ix 12 (p0) fun j11 =>
          if p3 = 0 then
            (f_X4_amountAt (24 + 3 * j11) p1 p2 sL sT sF sU).bind fun q14 =>
            some (q14)
          else
            (f_X8_thinAt p1 p2 (some (24 + 3 * j11)) none t_rain wa_g sL sT sF sU).bind fun q13 =>
            some (q13)
abbrev rmX10_comes : Room := { frames := 2, cells := 0, slots := 0, locals := 48 }
set_option maxHeartbeats 4000000 in
set_option maxRecDepth 100000 in
theorem c_X10_comes {l : Launch} {D : va_G} {g : Nat → ClassId} {N : Nat} {ad : Nat → Nat} {C : Nat → va_E} {sz : Nat} {t_there : Int32} {t_lift : Int32} {t_none : Int32} {t_rain : Nat → Int32} {wa_g : Nat → Int32} {sL : Nat → Nat → Int32} {sT : Nat → Nat → Int32} {sF : Nat → Int32} {sU : Nat → Int32} {p0 : Int32} {p1 : Int32} {p2 : Int32} {p3 : Int32} {rr : Int32} (hN : 86 ≤ N) (h0 : C 0 = .inr (10, [.ref (ad 1), .ref (ad 5), .ref (ad 19), .ref (ad 21), .ref (ad 60), .ref (ad 77), .ref (ad 81), .ref (ad 84), .ref (ad 85)])) (h5 : C 5 = .inr (7, [.ref (ad 6), .ref (ad 7), .ref (ad 8), .ref (ad 9), .ref (ad 10), .ref (ad 11), .ref (ad 12), .ref (ad 13), .ref (ad 14), .ref (ad 15), .ref (ad 16), .ref (ad 17), .ref (ad 18), .int t_there, .int t_lift, .int t_none])) (h15 : C 15 = aI g 24 t_rain) (h21 : C 21 = .inr (8, [.ref (ad 5), .ref (ad 19), .ref (ad 22), .ref (ad 23)])) (h22 : C 22 = aI g 12 wa_g) (h23 : C 23 = aS g 12 (fun i => if i < 12 then some (ad (24 + 3 * i)) else none)) (hS_ : PoolS g ad C sL sT sF sU) (hf : f_X10_comes p0 p1 p2 p3 t_rain t_there wa_g sL sT sF sU = some rr) : Met l yX10_comes wsX10_comes rmX10_comes (PcW D g N ad C sz [.ref (ad 0), .int p0, .int p1, .int p2, .int p3]) (QiR sz tP rr) 0 0 (An sz) := by
  refine Met.ofW (cc := cX10_comes) (maxL := 6) (ret := (some .int)) (by decide) rfl ?_
  intro p e s m args below meth c s₁ B hml hv
  obtain ⟨hav, hsz, hK, hP⟩ := hv
  subst hsz
  have hx := B.exec
  have hb := B.bytes
  have hr := B.returns
  have hts := atoms_spec (ws := wsX10_comes) B.pre
  have hown : s.vm.findClass RX10 = some m.cls := findClass_of_methodNamed B.named
  have hlocks := B.notSynchronized
  generalize hQ : MQ below (QiR s.heap.size tP rr) args s 0 0 (An s.heap.size) = QQ
  have hS : va_S (An s.heap.size) s.heap s.heap [] := va_S.rf
  have hA : ∀ q, s.heap.size ≤ q → (An s.heap.size) q := fun q h => h
  have k0 := hts (.fieldLink RX10 37 "UpDrain" "water" "LUpDrain$Water;") (List.mem_of_getElem? (i := 1) rfl)
  have nX10 : ∀ w ∈ u_ws RX10 TX10 9, w ∈ wsX10_comes := fun _ h => List.mem_cons_of_mem _ (List.mem_append_left _ (List.mem_append_left _ (List.mem_append_left _ (List.mem_append_right _ h))))
  have k2 := nf_57 (A := args) hK
  have nX8 : ∀ w ∈ u_ws RX8 TX8 4, w ∈ wsX10_comes := fun _ h => List.mem_cons_of_mem _ (List.mem_append_left _ (List.mem_append_left _ (List.mem_append_right _ h)))
  have hE := lg_entry_eq m [.ref (ad 0), .int p0, .int p1, .int p2, .int p3] 6
  rw [← hav] at hE
  rw [hE]
  have hl := lv_entry [.ref (ad 0), .int p0, .int p1, .int p2, .int p3] (n := 6) (Nat.le_of_ble_eq_true rfl)
  generalize (lg_sl [.ref (ad 0), .int p0, .int p1, .int p2, .int p3] ++ List.replicate (6 - (lg_sl [.ref (ad 0), .int p0, .int p1, .int p2, .int p3]).length) Slot.unset).toArray = ls at hl ⊢
  have hl : lv_has ls 6 [(0, .ref (ad 0)), (1, .int p0), (2, .int p1), (3, .int p2), (4, .int p3)] := hl
  clear hE
  unfold f_X10_comes at hf
  suffices hgo : ∀ (H : Heap) (locs : List Loc), va_P D vwCl (wd N ad C) H → va_S (An s.heap.size) s.heap H locs → W p l e (headSpec wsX10_comes rmX10_comes).room s m args below meth c H locs 0 0 QQ (F0 m 0 ls []) from hgo s.heap [] hP hS
  clear hS hP
  intro H locs hP hS
  refine lv_aload_n hx hb dX10_comes_0 rfl (lv_at hl 0 rfl) ?_
  refine lv_iload_n hx hb dX10_comes_1 rfl (lv_at hl 1 rfl) ?_
  obtain ⟨q1, hq1, hf⟩ := bd_e hf
  refine k_iR (va_runV (C := RX10) (As := [.int p0]) (rest := []) ⟨hx, hb, hml, hown, hts⟩ (c_X10_isThere (l := l) (sz := H.size) (p0 := p0) hN h0 h5 hq1) (cwV 1 hts gX10_comes_X10_isThere rfl rfl rfl (by decide +kernel) ⟨Nat.le_of_ble_eq_true rfl, Nat.le_of_ble_eq_true rfl⟩) (preV_of hK hP (by omega) h0 rfl) rfl rfl hl.1 rfl (lv_room (Nat.le_of_ble_eq_true rfl)) dX10_comes_2 ⟨Nat.le_of_ble_eq_true rfl, Nat.le_of_ble_eq_true rfl⟩) hA hP hS (fun H locs hP hS hbz_q1 => ?_)
  refine lv_if_eq (tgt := 16) hx hb dX10_comes_5 (by decide) (fun c2 => ?_) (fun c2 => ?_)
  · have hf := it_e c2 hf
    refine lv_bipush (v := (-2)) hx hb dX10_comes_16 (by decide) ?_
    obtain rfl := Option.some.inj hf
    rw [← hQ]
    exact e_iR hx hb hr rfl (tP_i _) hS hlocks dX10_comes_18
  · have hf := ie_e c2 hf
    refine lv_aload_n hx hb dX10_comes_8 rfl (lv_at hl 0 rfl) ?_
    refine lv_iload_n hx hb dX10_comes_9 rfl (lv_at hl 2 rfl) ?_
    obtain ⟨q3, hq3, hf⟩ := bd_e hf
    refine k_iR (va_runV (C := RX10) (As := [.int p1]) (rest := []) ⟨hx, hb, hml, hown, hts⟩ (c_X10_isThere (l := l) (sz := H.size) (p0 := p1) hN h0 h5 hq3) (cwV 1 hts gX10_comes_X10_isThere rfl rfl rfl (by decide +kernel) ⟨Nat.le_of_ble_eq_true rfl, Nat.le_of_ble_eq_true rfl⟩) (preV_of hK hP (by omega) h0 rfl) rfl rfl hl.1 rfl (lv_room (Nat.le_of_ble_eq_true rfl)) dX10_comes_10 ⟨Nat.le_of_ble_eq_true rfl, Nat.le_of_ble_eq_true rfl⟩) hA hP hS (fun H locs hP hS hbz_q3 => ?_)
    refine lv_if_ne (tgt := 19) hx hb dX10_comes_13 (by decide) (fun c4 => ?_) (fun c4 => ?_)
    · have hf := ie_e c4 hf
      refine lv_iload_n hx hb dX10_comes_19 rfl (lv_at hl 3 rfl) ?_
      obtain ⟨q5, hq5, hf⟩ := bd_e hf
      refine k_iR (va_runS (As := [.int p2]) (rest := []) ⟨hx, hb, hml, hown, hts⟩ (c_X10_isMinute (l := l) (sz := H.size) (p0 := p2) hq5) (va_cwS 1 hts gX10_comes_X10_isMinute rfl rfl rfl (by decide +kernel) ⟨Nat.le_of_ble_eq_true rfl, Nat.le_of_ble_eq_true rfl⟩) preS0 rfl rfl hl.1 rfl (lv_room (Nat.le_of_ble_eq_true rfl)) dX10_comes_20 ⟨Nat.le_of_ble_eq_true rfl, Nat.le_of_ble_eq_true rfl⟩) hA hP hS (fun H locs hP hS hbz_q5 => ?_)
      refine lv_if_eq (tgt := 34) hx hb dX10_comes_23 (by decide) (fun c6 => ?_) (fun c6 => ?_)
      · have hf := it_e c6 hf
        refine lv_bipush (v := (-3)) hx hb dX10_comes_34 (by decide) ?_
        obtain rfl := Option.some.inj hf
        rw [← hQ]
        exact e_iR hx hb hr rfl (tP_i _) hS hlocks dX10_comes_36
      · have hf := ie_e c6 hf
        refine lv_iload hx hb dX10_comes_26 (lv_at hl 4 rfl) ?_
        obtain ⟨q7, hq7, hf⟩ := bd_e hf
        refine k_iR (va_runS (As := [.int p3]) (rest := []) ⟨hx, hb, hml, hown, hts⟩ (c_X10_isPart (l := l) (sz := H.size) (p0 := p3) hq7) (va_cwS 1 hts gX10_comes_X10_isPart rfl rfl rfl (by decide +kernel) ⟨Nat.le_of_ble_eq_true rfl, Nat.le_of_ble_eq_true rfl⟩) preS0 rfl rfl hl.1 rfl (lv_room (Nat.le_of_ble_eq_true rfl)) dX10_comes_28 ⟨Nat.le_of_ble_eq_true rfl, Nat.le_of_ble_eq_true rfl⟩) hA hP hS (fun H locs hP hS hbz_q7 => ?_)
        refine lv_if_ne (tgt := 37) hx hb dX10_comes_31 (by decide) (fun c8 => ?_) (fun c8 => ?_)
        · have hf := ie_e c8 hf
          refine lv_aload_n hx hb dX10_comes_37 rfl (lv_at hl 0 rfl) ?_
          refine r_get (own := RX10) (T := TX10) (n := 9) (ci := 10) (v := .ref (ad 21)) hx hb hts nX10 hown hK hP (by omega) h0 rfl 3 (by decide) k0 rfl dX10_comes_38 ?_
          refine r_getN (own := RX10) (T := TX8) (n := 4) (ci := 8) (v := .ref (ad 23)) hx hb hts nX8 hown hK hP (by omega) h21 rfl 3 (by decide) k2 rfl dX10_comes_41 ?_
          refine lv_iload_n hx hb dX10_comes_44 rfl (lv_at hl 1 rfl) ?_
          obtain ⟨i9, hf⟩ := ix_e hf
          refine r_aldS2 hx hb hK hP (by omega) h23 i9 dX10_comes_45 (if_pos (vp_lt i9)) ?_
          obtain ⟨j11, ej11⟩ : ∃ z : Nat, z = Int32.toNatClampNeg p0 := ⟨_, rfl⟩
          rw [← ej11] at hf ⊢
          have hbj11 : isSB (24 + 3 * j11) := isSB_i (by rw [ej11]; exact vp_lt i9)
          refine W.eq (g2 := F0 m 46 ls [.ref (ad (24 + 3 * j11))]) rfl ?_
          refine lv_astore (lv' := [(5, .ref (ad (24 + 3 * j11))), (0, .ref (ad 0)), (1, .int p0), (2, .int p1), (3, .int p2), (4, .int p3)]) hx hb dX10_comes_46 hl (by decide) rfl (fun ls hl => ?_)
          refine lv_iload hx hb dX10_comes_48 (lv_at hl 5 rfl) ?_
          refine lv_if_ne (tgt := 63) hx hb dX10_comes_50 (by decide) (fun c12 => ?_) (fun c12 => ?_)
          · have hf := ie_e c12 hf
            refine lv_aload_n hx hb dX10_comes_63 rfl (lv_at hl 1 rfl) ?_
            refine r_get (own := RX10) (T := TX10) (n := 9) (ci := 10) (v := .ref (ad 21)) hx hb hts nX10 hown hK hP (by omega) h0 rfl 3 (by decide) k0 rfl dX10_comes_64 ?_
            refine lv_iload_n hx hb dX10_comes_67 rfl (lv_at hl 3 rfl) ?_
            refine lv_iload_n hx hb dX10_comes_68 rfl (lv_at hl 4 rfl) ?_
            refine lv_aload hx hb dX10_comes_69 (lv_at hl 0 rfl) ?_
            refine lv_null hx hb dX10_comes_71 ?_
            obtain ⟨q13, hq13, hf⟩ := bd_e hf
            refine k_iR (va_runV (C := RX8) (As := [.int p1, .int p2, .ref (ad (24 + 3 * j11)), .null]) (rest := []) ⟨hx, hb, hml, hown, hts⟩ (c_X8_thinAt (l := l) (sz := H.size) (p0 := p1) (p1 := p2) (p2 := (some (24 + 3 * j11))) (p3 := none) hN (oS_s hbj11) oS_n h5 h15 h21 h22 hS_ hq13) (cwV 4 hts gX10_comes_X8_thinAt rfl rfl rfl (by decide +kernel) ⟨Nat.le_of_ble_eq_true rfl, Nat.le_of_ble_eq_true rfl⟩) (preV_of hK hP (by omega) h21 rfl) rfl rfl hl.1 rfl (lv_room (Nat.le_of_ble_eq_true rfl)) dX10_comes_72 ⟨Nat.le_of_ble_eq_true rfl, Nat.le_of_ble_eq_true rfl⟩) hA hP hS (fun H locs hP hS hbz_q13 => ?_)
            obtain rfl := Option.some.inj hf
            rw [← hQ]
            exact e_iR hx hb hr rfl (tP_i _) hS hlocks dX10_comes_75
          · have hf := it_e c12 hf
            refine lv_aload hx hb dX10_comes_53 (lv_at hl 0 rfl) ?_
            refine lv_iload_n hx hb dX10_comes_55 rfl (lv_at hl 3 rfl) ?_
            refine lv_iload_n hx hb dX10_comes_56 rfl (lv_at hl 4 rfl) ?_
            obtain ⟨q14, hq14, hf⟩ := bd_e hf
            refine k_iR (va_runV (C := RX4) (As := [.int p1, .int p2]) (rest := []) ⟨hx, hb, hml, hown, hts⟩ (c_X4_amountAt (l := l) (sz := H.size) (p0 := p1) (p1 := p2) (b := (24 + 3 * j11)) hN hbj11 hS_ hq14) (cwV 2 hts gX10_comes_X4_amountAt rfl rfl rfl (by decide +kernel) ⟨Nat.le_of_ble_eq_true rfl, Nat.le_of_ble_eq_true rfl⟩) (preV_of hK hP (isSB_0 hN hbj11) (hS_ (24 + 3 * j11) hbj11).1 rfl) rfl rfl hl.1 rfl (lv_room (Nat.le_of_ble_eq_true rfl)) dX10_comes_57 ⟨Nat.le_of_ble_eq_true rfl, Nat.le_of_ble_eq_true rfl⟩) hA hP hS (fun H locs hP hS hbz_q14 => ?_)
            refine lv_goto (tgt := 75) hx hb dX10_comes_60 (by decide) ?_
            obtain rfl := Option.some.inj hf
            rw [← hQ]
            exact e_iR hx hb hr rfl (tP_i _) hS hlocks dX10_comes_75
        · have hf := it_e c8 hf
          refine lv_bipush (v := (-3)) hx hb dX10_comes_34 (by decide) ?_
          obtain rfl := Option.some.inj hf
          rw [← hQ]
          exact e_iR hx hb hr rfl (tP_i _) hS hlocks dX10_comes_36
    · have hf := it_e c4 hf
      refine lv_bipush (v := (-2)) hx hb dX10_comes_16 (by decide) ?_
      obtain rfl := Option.some.inj hf
      rw [← hQ]
      exact e_iR hx hb hr rfl (tP_i _) hS hlocks dX10_comes_18

def f_X10_canFill (p0 : Int32) (p1 : Int32) (p2 : Int32) (t_there : Int32) : Option (Int32) :=
  if p0 = 0 then
    some (0)
  else
    if (p0 &&& (t_there ^^^ (-1))) = 0 then
      (f_X10_isMinute p1).bind fun q3 =>
      if q3 = 0 then
        some (0)
      else
        if p2 < 1 then
          some (0)
        else
          if 6 < p2 then
            some (0)
          else
            (f_X10_isMinute (p1 + ((p2 - 1) * 60))).bind fun q7 =>
            if q7 = 0 then
              some (0)
            else
              some (1)
    else
      some (0)
abbrev rmX10_canFill : Room := { frames := 1, cells := 0, slots := 0, locals := 20 }
set_option maxHeartbeats 4000000 in
set_option maxRecDepth 100000 in
theorem c_X10_canFill {l : Launch} {D : va_G} {g : Nat → ClassId} {N : Nat} {ad : Nat → Nat} {C : Nat → va_E} {sz : Nat} {t_there : Int32} {t_lift : Int32} {t_none : Int32} {p0 : Int32} {p1 : Int32} {p2 : Int32} {rr : Int32} (hN : 86 ≤ N) (h0 : C 0 = .inr (10, [.ref (ad 1), .ref (ad 5), .ref (ad 19), .ref (ad 21), .ref (ad 60), .ref (ad 77), .ref (ad 81), .ref (ad 84), .ref (ad 85)])) (h5 : C 5 = .inr (7, [.ref (ad 6), .ref (ad 7), .ref (ad 8), .ref (ad 9), .ref (ad 10), .ref (ad 11), .ref (ad 12), .ref (ad 13), .ref (ad 14), .ref (ad 15), .ref (ad 16), .ref (ad 17), .ref (ad 18), .int t_there, .int t_lift, .int t_none])) (hf : f_X10_canFill p0 p1 p2 t_there = some rr) : Met l yX10_canFill wsX10_canFill rmX10_canFill (PcW D g N ad C sz [.ref (ad 0), .int p0, .int p1, .int p2]) (QiR sz bz rr) 0 0 (An sz) := by
  refine Met.ofW (cc := cX10_canFill) (maxL := 4) (ret := (some .boolean)) (by decide) rfl ?_
  intro p e s m args below meth c s₁ B hml hv
  obtain ⟨hav, hsz, hK, hP⟩ := hv
  subst hsz
  have hx := B.exec
  have hb := B.bytes
  have hr := B.returns
  have hts := atoms_spec (ws := wsX10_canFill) B.pre
  have hown : s.vm.findClass RX10 = some m.cls := findClass_of_methodNamed B.named
  have hlocks := B.notSynchronized
  generalize hQ : MQ below (QiR s.heap.size bz rr) args s 0 0 (An s.heap.size) = QQ
  have hS : va_S (An s.heap.size) s.heap s.heap [] := va_S.rf
  have hA : ∀ q, s.heap.size ≤ q → (An s.heap.size) q := fun q h => h
  have k0 := hts (.fieldLink RX10 19 "UpDrain" "plan" "LUpDrain$Town;") (List.mem_of_getElem? (i := 1) rfl)
  have nX10 : ∀ w ∈ u_ws RX10 TX10 9, w ∈ wsX10_canFill := fun _ h => List.mem_cons_of_mem _ (List.mem_append_left _ (List.mem_append_right _ h))
  have k2 := nf_40 (A := args) hK
  have nX7 : ∀ w ∈ u_ws RX7 TX7 16, w ∈ wsX10_canFill := fun _ h => List.mem_cons_of_mem _ (List.mem_append_right _ h)
  have hE := lg_entry_eq m [.ref (ad 0), .int p0, .int p1, .int p2] 4
  rw [← hav] at hE
  rw [hE]
  have hl := lv_entry [.ref (ad 0), .int p0, .int p1, .int p2] (n := 4) (Nat.le_of_ble_eq_true rfl)
  generalize (lg_sl [.ref (ad 0), .int p0, .int p1, .int p2] ++ List.replicate (4 - (lg_sl [.ref (ad 0), .int p0, .int p1, .int p2]).length) Slot.unset).toArray = ls at hl ⊢
  have hl : lv_has ls 4 [(0, .ref (ad 0)), (1, .int p0), (2, .int p1), (3, .int p2)] := hl
  clear hE
  unfold f_X10_canFill at hf
  suffices hgo : ∀ (H : Heap) (locs : List Loc), va_P D vwCl (wd N ad C) H → va_S (An s.heap.size) s.heap H locs → W p l e (headSpec wsX10_canFill rmX10_canFill).room s m args below meth c H locs 0 0 QQ (F0 m 0 ls []) from hgo s.heap [] hP hS
  clear hS hP
  intro H locs hP hS
  refine lv_iload_n hx hb dX10_canFill_0 rfl (lv_at hl 1 rfl) ?_
  refine lv_if_eq (tgt := 18) hx hb dX10_canFill_1 (by decide) (fun c1 => ?_) (fun c1 => ?_)
  · have hf := it_e c1 hf
    refine lv_iconst (v := 0) hx hb dX10_canFill_18 (by decide) ?_
    obtain rfl := Option.some.inj hf
    rw [← hQ]
    exact e_zR hx hb hr rfl bz0 hS hlocks dX10_canFill_19
  · have hf := ie_e c1 hf
    refine lv_iload_n hx hb dX10_canFill_4 rfl (lv_at hl 1 rfl) ?_
    refine lv_aload_n hx hb dX10_canFill_5 rfl (lv_at hl 0 rfl) ?_
    refine r_get (own := RX10) (T := TX10) (n := 9) (ci := 10) (v := .ref (ad 5)) hx hb hts nX10 hown hK hP (by omega) h0 rfl 1 (by decide) k0 rfl dX10_canFill_6 ?_
    refine r_getN (own := RX10) (T := TX7) (n := 16) (ci := 7) (v := .int t_there) hx hb hts nX7 hown hK hP (by omega) h5 rfl 13 (by decide) k2 rfl dX10_canFill_9 ?_
    refine lv_iconst (v := (-1)) hx hb dX10_canFill_12 (by decide) ?_
    refine lv_ixor hx hb dX10_canFill_13 ?_
    refine lv_iand hx hb dX10_canFill_14 ?_
    refine lv_if_eq (tgt := 20) hx hb dX10_canFill_15 (by decide) (fun c2 => ?_) (fun c2 => ?_)
    · have hf := it_e c2 hf
      refine lv_iload_n hx hb dX10_canFill_20 rfl (lv_at hl 2 rfl) ?_
      obtain ⟨q3, hq3, hf⟩ := bd_e hf
      refine k_iR (va_runS (As := [.int p1]) (rest := []) ⟨hx, hb, hml, hown, hts⟩ (c_X10_isMinute (l := l) (sz := H.size) (p0 := p1) hq3) (va_cwS 1 hts gX10_canFill_X10_isMinute rfl rfl rfl (by decide +kernel) ⟨Nat.le_of_ble_eq_true rfl, Nat.le_of_ble_eq_true rfl⟩) preS0 rfl rfl hl.1 rfl (lv_room (Nat.le_of_ble_eq_true rfl)) dX10_canFill_21 ⟨Nat.le_of_ble_eq_true rfl, Nat.le_of_ble_eq_true rfl⟩) hA hP hS (fun H locs hP hS hbz_q3 => ?_)
      refine lv_if_eq (tgt := 56) hx hb dX10_canFill_24 (by decide) (fun c4 => ?_) (fun c4 => ?_)
      · have hf := it_e c4 hf
        refine lv_iconst (v := 0) hx hb dX10_canFill_56 (by decide) ?_
        obtain rfl := Option.some.inj hf
        rw [← hQ]
        exact e_zR hx hb hr rfl bz0 hS hlocks dX10_canFill_57
      · have hf := ie_e c4 hf
        refine lv_iload_n hx hb dX10_canFill_27 rfl (lv_at hl 3 rfl) ?_
        refine lv_iconst (v := 1) hx hb dX10_canFill_28 (by decide) ?_
        refine lv_icmp_lt (tgt := 56) hx hb dX10_canFill_29 (by decide) (fun c5 => ?_) (fun c5 => ?_)
        · have hf := it_e c5 hf
          refine lv_iconst (v := 0) hx hb dX10_canFill_56 (by decide) ?_
          obtain rfl := Option.some.inj hf
          rw [← hQ]
          exact e_zR hx hb hr rfl bz0 hS hlocks dX10_canFill_57
        · have hf := ie_e c5 hf
          refine lv_iload_n hx hb dX10_canFill_32 rfl (lv_at hl 3 rfl) ?_
          refine lv_bipush (v := 6) hx hb dX10_canFill_33 (by decide) ?_
          refine lv_icmp_gt (tgt := 56) hx hb dX10_canFill_35 (by decide) (fun c6 => ?_) (fun c6 => ?_)
          · have hf := it_e c6 hf
            refine lv_iconst (v := 0) hx hb dX10_canFill_56 (by decide) ?_
            obtain rfl := Option.some.inj hf
            rw [← hQ]
            exact e_zR hx hb hr rfl bz0 hS hlocks dX10_canFill_57
          · have hf := ie_e c6 hf
            refine lv_iload_n hx hb dX10_canFill_38 rfl (lv_at hl 2 rfl) ?_
            refine lv_iload_n hx hb dX10_canFill_39 rfl (lv_at hl 3 rfl) ?_
            refine lv_iconst (v := 1) hx hb dX10_canFill_40 (by decide) ?_
            refine lv_isub hx hb dX10_canFill_41 ?_
            refine lv_bipush (v := 60) hx hb dX10_canFill_42 (by decide) ?_
            refine lv_imul hx hb dX10_canFill_44 ?_
            refine lv_iadd hx hb dX10_canFill_45 ?_
            obtain ⟨q7, hq7, hf⟩ := bd_e hf
            refine k_iR (va_runS (As := [.int (p1 + ((p2 - 1) * 60))]) (rest := []) ⟨hx, hb, hml, hown, hts⟩ (c_X10_isMinute (l := l) (sz := H.size) (p0 := (p1 + ((p2 - 1) * 60))) hq7) (va_cwS 1 hts gX10_canFill_X10_isMinute rfl rfl rfl (by decide +kernel) ⟨Nat.le_of_ble_eq_true rfl, Nat.le_of_ble_eq_true rfl⟩) preS0 rfl rfl hl.1 rfl (lv_room (Nat.le_of_ble_eq_true rfl)) dX10_canFill_46 ⟨Nat.le_of_ble_eq_true rfl, Nat.le_of_ble_eq_true rfl⟩) hA hP hS (fun H locs hP hS hbz_q7 => ?_)
            refine lv_if_eq (tgt := 56) hx hb dX10_canFill_49 (by decide) (fun c8 => ?_) (fun c8 => ?_)
            · have hf := it_e c8 hf
              refine lv_iconst (v := 0) hx hb dX10_canFill_56 (by decide) ?_
              obtain rfl := Option.some.inj hf
              rw [← hQ]
              exact e_zR hx hb hr rfl bz0 hS hlocks dX10_canFill_57
            · have hf := ie_e c8 hf
              refine lv_iconst (v := 1) hx hb dX10_canFill_52 (by decide) ?_
              refine lv_goto (tgt := 57) hx hb dX10_canFill_53 (by decide) ?_
              obtain rfl := Option.some.inj hf
              rw [← hQ]
              exact e_zR hx hb hr rfl bz1 hS hlocks dX10_canFill_57
    · have hf := ie_e c2 hf
      refine lv_iconst (v := 0) hx hb dX10_canFill_18 (by decide) ?_
      obtain rfl := Option.some.inj hf
      rw [← hQ]
      exact e_zR hx hb hr rfl bz0 hS hlocks dX10_canFill_19

def f_X10_should (p0 : Int32) (p1 : Int32) (p2 : Int32) (p3 : Int32) (p4 : Int32) (t_rain : Nat → Int32) (t_tell : Nat → Int32) (t_there : Int32) (wa_g : Nat → Int32) (sL : Nat → Nat → Int32) (sT : Nat → Nat → Int32) (sF : Nat → Int32) (sU : Nat → Int32) (fC : Nat → Int32) (fS : Nat → Int32) (fM : Nat → Int32) (fT : Nat → Int32) (fY : Nat → Int32) : Option (Int32 × (Nat → Int32) × (Nat → Int32) × (Nat → Int32) × (Nat → Int32) × (Nat → Int32)) :=
  (f_X10_isThere p0 t_there).bind fun q1 =>
  if q1 = 0 then
    some ((-2), fC, fS, fM, fT, fY)
  else
    (f_X10_isCup p1).bind fun q3 =>
    if q3 = 0 then
      some ((-2), fC, fS, fM, fT, fY)
    else
      (f_X10_canFill p2 p3 p4 t_there).bind fun q5 =>
      if q5 = 0 then
        some ((-3), fC, fS, fM, fT, fY)
      else
        (f_X1_put 85 p1 p2 p3 p4 1 fC fS fM fT fY).bind fun q7 =>
        ix 12 (p0) fun j10 =>
        (f_X8_shouldSayYes 85 (some (24 + 3 * j10)) none t_rain t_tell wa_g sL sT sF sU q7.1 q7.2.1 q7.2.2.1 q7.2.2.2.1).bind fun q11 =>
        if q11 = 0 then
          some (0, q7.1, q7.2.1, q7.2.2.1, q7.2.2.2.1, q7.2.2.2.2)
        else
          some (1, q7.1, q7.2.1, q7.2.2.1, q7.2.2.2.1, q7.2.2.2.2)
abbrev rmX10_should : Room := { frames := 4, cells := 0, slots := 0, locals := 100 }
set_option maxHeartbeats 4000000 in
set_option maxRecDepth 100000 in
theorem c_X10_should {l : Launch} {D : va_G} {g : Nat → ClassId} {N : Nat} {ad : Nat → Nat} {C : Nat → va_E} {sz : Nat} {t_there : Int32} {t_lift : Int32} {t_none : Int32} {t_rain : Nat → Int32} {t_tell : Nat → Int32} {wa_g : Nat → Int32} {fC : Nat → Int32} {fS : Nat → Int32} {fM : Nat → Int32} {fT : Nat → Int32} {fY : Nat → Int32} {sL : Nat → Nat → Int32} {sT : Nat → Nat → Int32} {sF : Nat → Int32} {sU : Nat → Int32} {p0 : Int32} {p1 : Int32} {p2 : Int32} {p3 : Int32} {p4 : Int32} {rr : Int32 × (Nat → Int32) × (Nat → Int32) × (Nat → Int32) × (Nat → Int32) × (Nat → Int32)} (hN : 86 ≤ N) (hI : Inj N ad) (h0 : C 0 = .inr (10, [.ref (ad 1), .ref (ad 5), .ref (ad 19), .ref (ad 21), .ref (ad 60), .ref (ad 77), .ref (ad 81), .ref (ad 84), .ref (ad 85)])) (h5 : C 5 = .inr (7, [.ref (ad 6), .ref (ad 7), .ref (ad 8), .ref (ad 9), .ref (ad 10), .ref (ad 11), .ref (ad 12), .ref (ad 13), .ref (ad 14), .ref (ad 15), .ref (ad 16), .ref (ad 17), .ref (ad 18), .int t_there, .int t_lift, .int t_none])) (h15 : C 15 = aI g 24 t_rain) (h16 : C 16 = aI g 4 t_tell) (h21 : C 21 = .inr (8, [.ref (ad 5), .ref (ad 19), .ref (ad 22), .ref (ad 23)])) (h22 : C 22 = aI g 12 wa_g) (h23 : C 23 = aS g 12 (fun i => if i < 12 then some (ad (24 + 3 * i)) else none)) (hF_ : PoolF C fC fS fM fT fY) (hS_ : PoolS g ad C sL sT sF sU) (hf : f_X10_should p0 p1 p2 p3 p4 t_rain t_tell t_there wa_g sL sT sF sU fC fS fM fT fY = some rr) : Met l yX10_should wsX10_should rmX10_should (PcW D g N ad C sz [.ref (ad 0), .int p0, .int p1, .int p2, .int p3, .int p4]) (QiW D N ad sz tP rr.1 (fun C' => (∀ i : Nat, (i < 67 ∨ 76 < i) ∧ i ≠ 85 → C' i = C i) ∧ (PoolF C' rr.2.1 rr.2.2.1 rr.2.2.2.1 rr.2.2.2.2.1 rr.2.2.2.2.2))) 0 0 (Aw N ad sz) := by
  refine Met.ofW (cc := cX10_should) (maxL := 6) (ret := (some .int)) (by decide) rfl ?_
  intro p e s m args below meth c s₁ B hml hv
  obtain ⟨hav, hsz, hK, hP⟩ := hv
  subst hsz
  have hx := B.exec
  have hb := B.bytes
  have hr := B.returns
  have hts := atoms_spec (ws := wsX10_should) B.pre
  have hown : s.vm.findClass RX10 = some m.cls := findClass_of_methodNamed B.named
  have hlocks := B.notSynchronized
  generalize hQ : MQ below (QiW D N ad s.heap.size tP rr.1 (fun C' => (∀ i : Nat, (i < 67 ∨ 76 < i) ∧ i ≠ 85 → C' i = C i) ∧ (PoolF C' rr.2.1 rr.2.2.1 rr.2.2.2.1 rr.2.2.2.2.1 rr.2.2.2.2.2))) args s 0 0 (Aw N ad s.heap.size) = QQ
  have hS : va_S (Aw N ad s.heap.size) s.heap s.heap [] := va_S.rf
  have hA : ∀ q, s.heap.size ≤ q → (Aw N ad s.heap.size) q := fun q h => Or.inr h
  have hAd : ∀ j : Nat, j < N → (Aw N ad s.heap.size) (ad j) := fun j h => Or.inl ⟨j, h, rfl⟩
  obtain ⟨C0, hC0⟩ : ∃ C0 : Nat → va_E, C0 = C := ⟨_, rfl⟩
  have hag : ∀ i : Nat, (i < 67 ∨ 76 < i) ∧ i ≠ 85 → C i = C0 i := fun i _ => by rw [hC0]
  rw [← hC0] at hQ
  have k0 := hts (.fieldLink RX10 76 "UpDrain" "asked" "LUpDrain$Filling;") (List.mem_of_getElem? (i := 1) rfl)
  have nX10 : ∀ w ∈ u_ws RX10 TX10 9, w ∈ wsX10_should := fun _ h => List.mem_cons_of_mem _ (List.mem_append_left _ (List.mem_append_left _ (List.mem_append_left _ (List.mem_append_left _ (List.mem_append_right _ h)))))
  have k2 := hts (.fieldLink RX10 37 "UpDrain" "water" "LUpDrain$Water;") (List.mem_of_getElem? (i := 2) rfl)
  have k3 := nf_57 (A := args) hK
  have nX8 : ∀ w ∈ u_ws RX8 TX8 4, w ∈ wsX10_should := fun _ h => List.mem_cons_of_mem _ (List.mem_append_left _ (List.mem_append_left _ (List.mem_append_left _ (List.mem_append_right _ h))))
  have hE := lg_entry_eq m [.ref (ad 0), .int p0, .int p1, .int p2, .int p3, .int p4] 6
  rw [← hav] at hE
  rw [hE]
  have hl := lv_entry [.ref (ad 0), .int p0, .int p1, .int p2, .int p3, .int p4] (n := 6) (Nat.le_of_ble_eq_true rfl)
  generalize (lg_sl [.ref (ad 0), .int p0, .int p1, .int p2, .int p3, .int p4] ++ List.replicate (6 - (lg_sl [.ref (ad 0), .int p0, .int p1, .int p2, .int p3, .int p4]).length) Slot.unset).toArray = ls at hl ⊢
  have hl : lv_has ls 6 [(0, .ref (ad 0)), (1, .int p0), (2, .int p1), (3, .int p2), (4, .int p3), (5, .int p4)] := hl
  clear hE
  unfold f_X10_should at hf
  suffices hgo : ∀ (H : Heap) (locs : List Loc), va_P D vwCl (wd N ad C) H → va_S (Aw N ad s.heap.size) s.heap H locs → W p l e (headSpec wsX10_should rmX10_should).room s m args below meth c H locs 0 0 QQ (F0 m 0 ls []) from hgo s.heap [] hP hS
  clear hS hP
  intro H locs hP hS
  refine lv_aload_n hx hb dX10_should_0 rfl (lv_at hl 0 rfl) ?_
  refine lv_iload_n hx hb dX10_should_1 rfl (lv_at hl 1 rfl) ?_
  obtain ⟨q1, hq1, hf⟩ := bd_e hf
  refine k_iR (va_runV (C := RX10) (As := [.int p0]) (rest := []) ⟨hx, hb, hml, hown, hts⟩ (c_X10_isThere (l := l) (sz := H.size) (p0 := p0) hN h0 h5 hq1) (cwV 1 hts gX10_should_X10_isThere rfl rfl rfl (by decide +kernel) ⟨Nat.le_of_ble_eq_true rfl, Nat.le_of_ble_eq_true rfl⟩) (preV_of hK hP (by omega) h0 rfl) rfl rfl hl.1 rfl (lv_room (Nat.le_of_ble_eq_true rfl)) dX10_should_2 ⟨Nat.le_of_ble_eq_true rfl, Nat.le_of_ble_eq_true rfl⟩) hA hP hS (fun H locs hP hS hbz_q1 => ?_)
  refine lv_if_eq (tgt := 15) hx hb dX10_should_5 (by decide) (fun c2 => ?_) (fun c2 => ?_)
  · have hf := it_e c2 hf
    refine lv_bipush (v := (-2)) hx hb dX10_should_15 (by decide) ?_
    obtain rfl := Option.some.inj hf
    rw [← hQ]
    exact e_iW hx hb hr rfl (tP_i _) hP hS ⟨hag, hF_⟩ hlocks dX10_should_17
  · have hf := ie_e c2 hf
    refine lv_iload_n hx hb dX10_should_8 rfl (lv_at hl 2 rfl) ?_
    obtain ⟨q3, hq3, hf⟩ := bd_e hf
    refine k_iR (va_runS (As := [.int p1]) (rest := []) ⟨hx, hb, hml, hown, hts⟩ (c_X10_isCup (l := l) (sz := H.size) (p0 := p1) hq3) (va_cwS 1 hts gX10_should_X10_isCup rfl rfl rfl (by decide +kernel) ⟨Nat.le_of_ble_eq_true rfl, Nat.le_of_ble_eq_true rfl⟩) preS0 rfl rfl hl.1 rfl (lv_room (Nat.le_of_ble_eq_true rfl)) dX10_should_9 ⟨Nat.le_of_ble_eq_true rfl, Nat.le_of_ble_eq_true rfl⟩) hA hP hS (fun H locs hP hS hbz_q3 => ?_)
    refine lv_if_ne (tgt := 18) hx hb dX10_should_12 (by decide) (fun c4 => ?_) (fun c4 => ?_)
    · have hf := ie_e c4 hf
      refine lv_aload_n hx hb dX10_should_18 rfl (lv_at hl 0 rfl) ?_
      refine lv_iload_n hx hb dX10_should_19 rfl (lv_at hl 3 rfl) ?_
      refine lv_iload hx hb dX10_should_20 (lv_at hl 4 rfl) ?_
      refine lv_iload hx hb dX10_should_22 (lv_at hl 5 rfl) ?_
      obtain ⟨q5, hq5, hf⟩ := bd_e hf
      refine k_iR (va_runV (C := RX10) (As := [.int p2, .int p3, .int p4]) (rest := []) ⟨hx, hb, hml, hown, hts⟩ (c_X10_canFill (l := l) (sz := H.size) (p0 := p2) (p1 := p3) (p2 := p4) hN h0 h5 hq5) (cwV 3 hts gX10_should_X10_canFill rfl rfl rfl (by decide +kernel) ⟨Nat.le_of_ble_eq_true rfl, Nat.le_of_ble_eq_true rfl⟩) (preV_of hK hP (by omega) h0 rfl) rfl rfl hl.1 rfl (lv_room (Nat.le_of_ble_eq_true rfl)) dX10_should_24 ⟨Nat.le_of_ble_eq_true rfl, Nat.le_of_ble_eq_true rfl⟩) hA hP hS (fun H locs hP hS hbz_q5 => ?_)
      refine lv_if_ne (tgt := 33) hx hb dX10_should_27 (by decide) (fun c6 => ?_) (fun c6 => ?_)
      · have hf := ie_e c6 hf
        refine lv_aload_n hx hb dX10_should_33 rfl (lv_at hl 0 rfl) ?_
        refine r_get (own := RX10) (T := TX10) (n := 9) (ci := 10) (v := .ref (ad 85)) hx hb hts nX10 hown hK hP (by omega) h0 rfl 8 (by decide) k0 rfl dX10_should_34 ?_
        refine lv_iload_n hx hb dX10_should_37 rfl (lv_at hl 2 rfl) ?_
        refine lv_iload_n hx hb dX10_should_38 rfl (lv_at hl 3 rfl) ?_
        refine lv_iload hx hb dX10_should_39 (lv_at hl 4 rfl) ?_
        refine lv_iload hx hb dX10_should_41 (lv_at hl 5 rfl) ?_
        refine lv_iconst (v := 1) hx hb dX10_should_43 (by decide) ?_
        obtain ⟨q7, hq7, hf⟩ := bd_e hf
        refine k_vW (va_runV (C := RX1) (As := [.int p1, .int p2, .int p3, .int p4, .int 1]) (rest := []) ⟨hx, hb, hml, hown, hts⟩ (c_X1_put (l := l) (sz := H.size) (p0 := p1) (p1 := p2) (p2 := p3) (p3 := p4) (p4 := 1) (b := 85) hN hI bz1 isFB_a hF_ hq7) (cwV 5 hts gX10_should_X1_put rfl rfl rfl (by decide +kernel) ⟨Nat.le_of_ble_eq_true rfl, Nat.le_of_ble_eq_true rfl⟩) (preV_of hK hP (isFB_0 hN isFB_a) (hF_ 85 isFB_a) rfl) rfl rfl hl.1 rfl (lv_room (Nat.le_of_ble_eq_true rfl)) dX10_should_44 ⟨Nat.le_of_ble_eq_true rfl, Nat.le_of_ble_eq_true rfl⟩) hA hAd hS (fun C H locs hP hS hpo => ?_)
        obtain ⟨he, hF_⟩ := hpo
        have hag : ∀ i : Nat, (i < 67 ∨ 76 < i) ∧ i ≠ 85 → C i = C0 i := fun i h => (he i (by omega)).trans (hag i h)
        have h0 := (he 0 (by decide)).trans h0
        have h5 := (he 5 (by decide)).trans h5
        have h15 := (he 15 (by decide)).trans h15
        have h16 := (he 16 (by decide)).trans h16
        have h21 := (he 21 (by decide)).trans h21
        have h22 := (he 22 (by decide)).trans h22
        have h23 := (he 23 (by decide)).trans h23
        have hS_ := hS_.ne (fun i h1 h2 => he i (by omega))
        refine lv_aload_n hx hb dX10_should_47 rfl (lv_at hl 0 rfl) ?_
        refine r_get (own := RX10) (T := TX10) (n := 9) (ci := 10) (v := .ref (ad 21)) hx hb hts nX10 hown hK hP (by omega) h0 rfl 3 (by decide) k2 rfl dX10_should_48 ?_
        refine lv_aload_n hx hb dX10_should_51 rfl (lv_at hl 0 rfl) ?_
        refine r_get (own := RX10) (T := TX10) (n := 9) (ci := 10) (v := .ref (ad 85)) hx hb hts nX10 hown hK hP (by omega) h0 rfl 8 (by decide) k0 rfl dX10_should_52 ?_
        refine lv_aload_n hx hb dX10_should_55 rfl (lv_at hl 0 rfl) ?_
        refine r_get (own := RX10) (T := TX10) (n := 9) (ci := 10) (v := .ref (ad 21)) hx hb hts nX10 hown hK hP (by omega) h0 rfl 3 (by decide) k2 rfl dX10_should_56 ?_
        refine r_getN (own := RX10) (T := TX8) (n := 4) (ci := 8) (v := .ref (ad 23)) hx hb hts nX8 hown hK hP (by omega) h21 rfl 3 (by decide) k3 rfl dX10_should_59 ?_
        refine lv_iload_n hx hb dX10_should_62 rfl (lv_at hl 1 rfl) ?_
        obtain ⟨i8, hf⟩ := ix_e hf
        refine r_aldS2 hx hb hK hP (by omega) h23 i8 dX10_should_63 (if_pos (vp_lt i8)) ?_
        obtain ⟨j10, ej10⟩ : ∃ z : Nat, z = Int32.toNatClampNeg p0 := ⟨_, rfl⟩
        rw [← ej10] at hf ⊢
        have hbj10 : isSB (24 + 3 * j10) := isSB_i (by rw [ej10]; exact vp_lt i8)
        refine W.eq (g2 := F0 m 64 ls [.ref (ad (24 + 3 * j10)), .ref (ad 85), .ref (ad 21)]) rfl ?_
        refine lv_null hx hb dX10_should_64 ?_
        obtain ⟨q11, hq11, hf⟩ := bd_e hf
        refine k_iR (va_runV (C := RX8) (As := [.ref (ad 85), .ref (ad (24 + 3 * j10)), .null]) (rest := []) ⟨hx, hb, hml, hown, hts⟩ (c_X8_shouldSayYes (l := l) (sz := H.size) (p0 := 85) (p1 := (some (24 + 3 * j10))) (p2 := none) hN isFB_a (oS_s hbj10) oS_n h5 h15 h16 h21 h22 hF_ hS_ hq11) (cwV 3 hts gX10_should_X8_shouldSayYes rfl rfl rfl (by decide +kernel) ⟨Nat.le_of_ble_eq_true rfl, Nat.le_of_ble_eq_true rfl⟩) (preV_of hK hP (by omega) h21 rfl) rfl rfl hl.1 rfl (lv_room (Nat.le_of_ble_eq_true rfl)) dX10_should_65 ⟨Nat.le_of_ble_eq_true rfl, Nat.le_of_ble_eq_true rfl⟩) hA hP hS (fun H locs hP hS hbz_q11 => ?_)
        refine lv_if_eq (tgt := 75) hx hb dX10_should_68 (by decide) (fun c12 => ?_) (fun c12 => ?_)
        · have hf := it_e c12 hf
          refine lv_iconst (v := 0) hx hb dX10_should_75 (by decide) ?_
          obtain rfl := Option.some.inj hf
          rw [← hQ]
          exact e_iW hx hb hr rfl (tP_i _) hP hS ⟨hag, hF_⟩ hlocks dX10_should_76
        · have hf := ie_e c12 hf
          refine lv_iconst (v := 1) hx hb dX10_should_71 (by decide) ?_
          refine lv_goto (tgt := 76) hx hb dX10_should_72 (by decide) ?_
          obtain rfl := Option.some.inj hf
          rw [← hQ]
          exact e_iW hx hb hr rfl (tP_i _) hP hS ⟨hag, hF_⟩ hlocks dX10_should_76
      · have hf := it_e c6 hf
        refine lv_bipush (v := (-3)) hx hb dX10_should_30 (by decide) ?_
        obtain rfl := Option.some.inj hf
        rw [← hQ]
        exact e_iW hx hb hr rfl (tP_i _) hP hS ⟨hag, hF_⟩ hlocks dX10_should_32
    · have hf := it_e c4 hf
      refine lv_bipush (v := (-2)) hx hb dX10_should_15 (by decide) ?_
      obtain rfl := Option.some.inj hf
      rw [← hQ]
      exact e_iW hx hb hr rfl (tP_i _) hP hS ⟨hag, hF_⟩ hlocks dX10_should_17

def f_X10_found (p0 : Int32) (p1 : Int32) (p2 : Int32) (p3 : Int32) (p4 : Int32) (t_there : Int32) (th_k1 : Int32) (th_k2 : Int32) (th_size : Int32) (fC : Nat → Int32) (fS : Nat → Int32) (fM : Nat → Int32) (fT : Nat → Int32) (fY : Nat → Int32) : Option (Int32 × Int32 × Int32 × Int32 × (Nat → Int32) × (Nat → Int32) × (Nat → Int32) × (Nat → Int32) × (Nat → Int32)) :=
  (f_X10_isCup p0).bind fun q1 =>
  if q1 = 0 then
    some ((-2), th_k1, th_k2, th_size, fC, fS, fM, fT, fY)
  else
    (f_X10_canFill p1 p2 p3 t_there).bind fun q3 =>
    if q3 = 0 then
      some ((-3), th_k1, th_k2, th_size, fC, fS, fM, fT, fY)
    else
      if th_size < 10 then
        (f_X6_keep p0 p1 p2 p3 p4 th_k1 th_k2 th_size fC fS fM fT fY).bind fun q6 =>
        some (q6.1, q6.2.1, q6.2.2.1, q6.2.2.2.1, q6.2.2.2.2.1, q6.2.2.2.2.2.1, q6.2.2.2.2.2.2.1, q6.2.2.2.2.2.2.2.1, q6.2.2.2.2.2.2.2.2)
      else
        some ((-5), th_k1, th_k2, th_size, fC, fS, fM, fT, fY)
abbrev rmX10_found : Room := { frames := 2, cells := 0, slots := 0, locals := 50 }
set_option maxHeartbeats 4000000 in
set_option maxRecDepth 100000 in
theorem c_X10_found {l : Launch} {D : va_G} {g : Nat → ClassId} {N : Nat} {ad : Nat → Nat} {C : Nat → va_E} {sz : Nat} {t_there : Int32} {t_lift : Int32} {t_none : Int32} {th_none : Int64} {th_all1 : Int64} {th_all2 : Int64} {th_k1 : Int32} {th_k2 : Int32} {th_size : Int32} {fC : Nat → Int32} {fS : Nat → Int32} {fM : Nat → Int32} {fT : Nat → Int32} {fY : Nat → Int32} {p0 : Int32} {p1 : Int32} {p2 : Int32} {p3 : Int32} {p4 : Int32} {rr : Int32 × Int32 × Int32 × Int32 × (Nat → Int32) × (Nat → Int32) × (Nat → Int32) × (Nat → Int32) × (Nat → Int32)} (hN : 86 ≤ N) (hI : Inj N ad) (hbz_p4 : bz p4) (h0 : C 0 = .inr (10, [.ref (ad 1), .ref (ad 5), .ref (ad 19), .ref (ad 21), .ref (ad 60), .ref (ad 77), .ref (ad 81), .ref (ad 84), .ref (ad 85)])) (h5 : C 5 = .inr (7, [.ref (ad 6), .ref (ad 7), .ref (ad 8), .ref (ad 9), .ref (ad 10), .ref (ad 11), .ref (ad 12), .ref (ad 13), .ref (ad 14), .ref (ad 15), .ref (ad 16), .ref (ad 17), .ref (ad 18), .int t_there, .int t_lift, .int t_none])) (h60 : C 60 = .inr (6, [.ref (ad 5), .ref (ad 19), .ref (ad 21), .ref (ad 61), .ref (ad 62), .ref (ad 65), .ref (ad 66), .long th_none, .long th_all1, .long th_all2, .int th_k1, .int th_k2, .int th_size])) (h61 : C 61 = aF g 10 (fun i => if i < 10 then some (ad (67 + i)) else none)) (hF_ : PoolF C fC fS fM fT fY) (hf : f_X10_found p0 p1 p2 p3 p4 t_there th_k1 th_k2 th_size fC fS fM fT fY = some rr) : Met l yX10_found wsX10_found rmX10_found (PcW D g N ad C sz [.ref (ad 0), .int p0, .int p1, .int p2, .int p3, .int p4]) (QiW D N ad sz tP rr.1 (fun C' => (∀ i : Nat, i ≠ 60 ∧ (i < 67 ∨ 76 < i) ∧ i ≠ 85 → C' i = C i) ∧ (C' 60 = .inr (6, [.ref (ad 5), .ref (ad 19), .ref (ad 21), .ref (ad 61), .ref (ad 62), .ref (ad 65), .ref (ad 66), .long th_none, .long th_all1, .long th_all2, .int rr.2.1, .int rr.2.2.1, .int rr.2.2.2.1])) ∧ (PoolF C' rr.2.2.2.2.1 rr.2.2.2.2.2.1 rr.2.2.2.2.2.2.1 rr.2.2.2.2.2.2.2.1 rr.2.2.2.2.2.2.2.2))) 0 0 (Aw N ad sz) := by
  refine Met.ofW (cc := cX10_found) (maxL := 6) (ret := (some .int)) (by decide) rfl ?_
  intro p e s m args below meth c s₁ B hml hv
  obtain ⟨hav, hsz, hK, hP⟩ := hv
  subst hsz
  have hx := B.exec
  have hb := B.bytes
  have hr := B.returns
  have hts := atoms_spec (ws := wsX10_found) B.pre
  have hown : s.vm.findClass RX10 = some m.cls := findClass_of_methodNamed B.named
  have hlocks := B.notSynchronized
  generalize hQ : MQ below (QiW D N ad s.heap.size tP rr.1 (fun C' => (∀ i : Nat, i ≠ 60 ∧ (i < 67 ∨ 76 < i) ∧ i ≠ 85 → C' i = C i) ∧ (C' 60 = .inr (6, [.ref (ad 5), .ref (ad 19), .ref (ad 21), .ref (ad 61), .ref (ad 62), .ref (ad 65), .ref (ad 66), .long th_none, .long th_all1, .long th_all2, .int rr.2.1, .int rr.2.2.1, .int rr.2.2.2.1])) ∧ (PoolF C' rr.2.2.2.2.1 rr.2.2.2.2.2.1 rr.2.2.2.2.2.2.1 rr.2.2.2.2.2.2.2.1 rr.2.2.2.2.2.2.2.2))) args s 0 0 (Aw N ad s.heap.size) = QQ
  have hS : va_S (Aw N ad s.heap.size) s.heap s.heap [] := va_S.rf
  have hA : ∀ q, s.heap.size ≤ q → (Aw N ad s.heap.size) q := fun q h => Or.inr h
  have hAd : ∀ j : Nat, j < N → (Aw N ad s.heap.size) (ad j) := fun j h => Or.inl ⟨j, h, rfl⟩
  obtain ⟨C0, hC0⟩ : ∃ C0 : Nat → va_E, C0 = C := ⟨_, rfl⟩
  have hag : ∀ i : Nat, i ≠ 60 ∧ (i < 67 ∨ 76 < i) ∧ i ≠ 85 → C i = C0 i := fun i _ => by rw [hC0]
  rw [← hC0] at hQ
  have k0 := hts (.fieldLink RX10 46 "UpDrain" "thoughts" "LUpDrain$Thoughts;") (List.mem_of_getElem? (i := 1) rfl)
  have nX10 : ∀ w ∈ u_ws RX10 TX10 9, w ∈ wsX10_found := fun _ h => List.mem_cons_of_mem _ (List.mem_append_left _ (List.mem_append_left _ (List.mem_append_left _ (List.mem_append_right _ h))))
  have k2 := nf_69 (A := args) hK
  have nX6 : ∀ w ∈ u_ws RX6 TX6 13, w ∈ wsX10_found := fun _ h => List.mem_cons_of_mem _ (List.mem_append_left _ (List.mem_append_left _ (List.mem_append_right _ h)))
  have hE := lg_entry_eq m [.ref (ad 0), .int p0, .int p1, .int p2, .int p3, .int p4] 6
  rw [← hav] at hE
  rw [hE]
  have hl := lv_entry [.ref (ad 0), .int p0, .int p1, .int p2, .int p3, .int p4] (n := 6) (Nat.le_of_ble_eq_true rfl)
  generalize (lg_sl [.ref (ad 0), .int p0, .int p1, .int p2, .int p3, .int p4] ++ List.replicate (6 - (lg_sl [.ref (ad 0), .int p0, .int p1, .int p2, .int p3, .int p4]).length) Slot.unset).toArray = ls at hl ⊢
  have hl : lv_has ls 6 [(0, .ref (ad 0)), (1, .int p0), (2, .int p1), (3, .int p2), (4, .int p3), (5, .int p4)] := hl
  clear hE
  unfold f_X10_found at hf
  suffices hgo : ∀ (H : Heap) (locs : List Loc), va_P D vwCl (wd N ad C) H → va_S (Aw N ad s.heap.size) s.heap H locs → W p l e (headSpec wsX10_found rmX10_found).room s m args below meth c H locs 0 0 QQ (F0 m 0 ls []) from hgo s.heap [] hP hS
  clear hS hP
  intro H locs hP hS
  refine lv_iload_n hx hb dX10_found_0 rfl (lv_at hl 1 rfl) ?_
  obtain ⟨q1, hq1, hf⟩ := bd_e hf
  refine k_iR (va_runS (As := [.int p0]) (rest := []) ⟨hx, hb, hml, hown, hts⟩ (c_X10_isCup (l := l) (sz := H.size) (p0 := p0) hq1) (va_cwS 1 hts gX10_found_X10_isCup rfl rfl rfl (by decide +kernel) ⟨Nat.le_of_ble_eq_true rfl, Nat.le_of_ble_eq_true rfl⟩) preS0 rfl rfl hl.1 rfl (lv_room (Nat.le_of_ble_eq_true rfl)) dX10_found_1 ⟨Nat.le_of_ble_eq_true rfl, Nat.le_of_ble_eq_true rfl⟩) hA hP hS (fun H locs hP hS hbz_q1 => ?_)
  refine lv_if_ne (tgt := 10) hx hb dX10_found_4 (by decide) (fun c2 => ?_) (fun c2 => ?_)
  · have hf := ie_e c2 hf
    refine lv_aload_n hx hb dX10_found_10 rfl (lv_at hl 0 rfl) ?_
    refine lv_iload_n hx hb dX10_found_11 rfl (lv_at hl 2 rfl) ?_
    refine lv_iload_n hx hb dX10_found_12 rfl (lv_at hl 3 rfl) ?_
    refine lv_iload hx hb dX10_found_13 (lv_at hl 4 rfl) ?_
    obtain ⟨q3, hq3, hf⟩ := bd_e hf
    refine k_iR (va_runV (C := RX10) (As := [.int p1, .int p2, .int p3]) (rest := []) ⟨hx, hb, hml, hown, hts⟩ (c_X10_canFill (l := l) (sz := H.size) (p0 := p1) (p1 := p2) (p2 := p3) hN h0 h5 hq3) (cwV 3 hts gX10_found_X10_canFill rfl rfl rfl (by decide +kernel) ⟨Nat.le_of_ble_eq_true rfl, Nat.le_of_ble_eq_true rfl⟩) (preV_of hK hP (by omega) h0 rfl) rfl rfl hl.1 rfl (lv_room (Nat.le_of_ble_eq_true rfl)) dX10_found_15 ⟨Nat.le_of_ble_eq_true rfl, Nat.le_of_ble_eq_true rfl⟩) hA hP hS (fun H locs hP hS hbz_q3 => ?_)
    refine lv_if_ne (tgt := 24) hx hb dX10_found_18 (by decide) (fun c4 => ?_) (fun c4 => ?_)
    · have hf := ie_e c4 hf
      refine lv_aload_n hx hb dX10_found_24 rfl (lv_at hl 0 rfl) ?_
      refine r_get (own := RX10) (T := TX10) (n := 9) (ci := 10) (v := .ref (ad 60)) hx hb hts nX10 hown hK hP (by omega) h0 rfl 4 (by decide) k0 rfl dX10_found_25 ?_
      refine r_getN (own := RX10) (T := TX6) (n := 13) (ci := 6) (v := .int th_size) hx hb hts nX6 hown hK hP (by omega) h60 rfl 12 (by decide) k2 rfl dX10_found_28 ?_
      refine lv_bipush (v := 10) hx hb dX10_found_31 (by decide) ?_
      refine lv_icmp_lt (tgt := 39) hx hb dX10_found_33 (by decide) (fun c5 => ?_) (fun c5 => ?_)
      · have hf := it_e c5 hf
        refine lv_aload_n hx hb dX10_found_39 rfl (lv_at hl 0 rfl) ?_
        refine r_get (own := RX10) (T := TX10) (n := 9) (ci := 10) (v := .ref (ad 60)) hx hb hts nX10 hown hK hP (by omega) h0 rfl 4 (by decide) k0 rfl dX10_found_40 ?_
        refine lv_iload_n hx hb dX10_found_43 rfl (lv_at hl 1 rfl) ?_
        refine lv_iload_n hx hb dX10_found_44 rfl (lv_at hl 2 rfl) ?_
        refine lv_iload_n hx hb dX10_found_45 rfl (lv_at hl 3 rfl) ?_
        refine lv_iload hx hb dX10_found_46 (lv_at hl 4 rfl) ?_
        refine lv_iload hx hb dX10_found_48 (lv_at hl 5 rfl) ?_
        obtain ⟨q6, hq6, hf⟩ := bd_e hf
        refine k_iW (va_runV (C := RX6) (As := [.int p0, .int p1, .int p2, .int p3, .int p4]) (rest := []) ⟨hx, hb, hml, hown, hts⟩ (c_X6_keep (l := l) (sz := H.size) (p0 := p0) (p1 := p1) (p2 := p2) (p3 := p3) (p4 := p4) hN hI hbz_p4 h60 h61 hF_ hq6) (cwV 5 hts gX10_found_X6_keep rfl rfl rfl (by decide +kernel) ⟨Nat.le_of_ble_eq_true rfl, Nat.le_of_ble_eq_true rfl⟩) (preV_of hK hP (by omega) h60 rfl) rfl rfl hl.1 rfl (lv_room (Nat.le_of_ble_eq_true rfl)) dX10_found_50 ⟨Nat.le_of_ble_eq_true rfl, Nat.le_of_ble_eq_true rfl⟩) hA hAd hS (fun C H locs hP hS hpo hbz_q6 => ?_)
        obtain ⟨he, h60, hF_⟩ := hpo
        have hag : ∀ i : Nat, i ≠ 60 ∧ (i < 67 ∨ 76 < i) ∧ i ≠ 85 → C i = C0 i := fun i h => (he i (by omega)).trans (hag i h)
        have h0 := (he 0 (by decide)).trans h0
        have h5 := (he 5 (by decide)).trans h5
        have h61 := (he 61 (by decide)).trans h61
        obtain rfl := Option.some.inj hf
        rw [← hQ]
        exact e_iW hx hb hr rfl (tP_i _) hP hS ⟨hag, h60, hF_⟩ hlocks dX10_found_53
      · have hf := ie_e c5 hf
        refine lv_bipush (v := (-5)) hx hb dX10_found_36 (by decide) ?_
        obtain rfl := Option.some.inj hf
        rw [← hQ]
        exact e_iW hx hb hr rfl (tP_i _) hP hS ⟨hag, h60, hF_⟩ hlocks dX10_found_38
    · have hf := it_e c4 hf
      refine lv_bipush (v := (-3)) hx hb dX10_found_21 (by decide) ?_
      obtain rfl := Option.some.inj hf
      rw [← hQ]
      exact e_iW hx hb hr rfl (tP_i _) hP hS ⟨hag, h60, hF_⟩ hlocks dX10_found_23
  · have hf := it_e c2 hf
    refine lv_bipush (v := (-2)) hx hb dX10_found_7 (by decide) ?_
    obtain rfl := Option.some.inj hf
    rw [← hQ]
    exact e_iW hx hb hr rfl (tP_i _) hP hS ⟨hag, h60, hF_⟩ hlocks dX10_found_9

def f_X10_forget (th_k1 : Int32) (th_k2 : Int32) (th_size : Int32) : Option (Int32 × Int32 × Int32 × Int32) :=
  (f_X6_drop th_k1 th_k2 th_size).bind fun q1 =>
  some (q1.1, q1.2.1, q1.2.2.1, q1.2.2.2)
abbrev rmX10_forget : Room := { frames := 2, cells := 0, slots := 0, locals := 41 }
set_option maxHeartbeats 4000000 in
set_option maxRecDepth 100000 in
theorem c_X10_forget {l : Launch} {D : va_G} {g : Nat → ClassId} {N : Nat} {ad : Nat → Nat} {C : Nat → va_E} {sz : Nat} {th_none : Int64} {th_all1 : Int64} {th_all2 : Int64} {th_k1 : Int32} {th_k2 : Int32} {th_size : Int32}  {rr : Int32 × Int32 × Int32 × Int32} (hN : 86 ≤ N) (hI : Inj N ad) (h0 : C 0 = .inr (10, [.ref (ad 1), .ref (ad 5), .ref (ad 19), .ref (ad 21), .ref (ad 60), .ref (ad 77), .ref (ad 81), .ref (ad 84), .ref (ad 85)])) (h60 : C 60 = .inr (6, [.ref (ad 5), .ref (ad 19), .ref (ad 21), .ref (ad 61), .ref (ad 62), .ref (ad 65), .ref (ad 66), .long th_none, .long th_all1, .long th_all2, .int th_k1, .int th_k2, .int th_size])) (hf : f_X10_forget th_k1 th_k2 th_size = some rr) : Met l yX10_forget wsX10_forget rmX10_forget (PcW D g N ad C sz [.ref (ad 0)]) (QiW D N ad sz tP rr.1 (fun C' => (∀ i : Nat, i ≠ 60 → C' i = C i) ∧ (C' 60 = .inr (6, [.ref (ad 5), .ref (ad 19), .ref (ad 21), .ref (ad 61), .ref (ad 62), .ref (ad 65), .ref (ad 66), .long th_none, .long th_all1, .long th_all2, .int rr.2.1, .int rr.2.2.1, .int rr.2.2.2])))) 0 0 (Aw N ad sz) := by
  refine Met.ofW (cc := cX10_forget) (maxL := 1) (ret := (some .int)) (by decide) rfl ?_
  intro p e s m args below meth c s₁ B hml hv
  obtain ⟨hav, hsz, hK, hP⟩ := hv
  subst hsz
  have hx := B.exec
  have hb := B.bytes
  have hr := B.returns
  have hts := atoms_spec (ws := wsX10_forget) B.pre
  have hown : s.vm.findClass RX10 = some m.cls := findClass_of_methodNamed B.named
  have hlocks := B.notSynchronized
  generalize hQ : MQ below (QiW D N ad s.heap.size tP rr.1 (fun C' => (∀ i : Nat, i ≠ 60 → C' i = C i) ∧ (C' 60 = .inr (6, [.ref (ad 5), .ref (ad 19), .ref (ad 21), .ref (ad 61), .ref (ad 62), .ref (ad 65), .ref (ad 66), .long th_none, .long th_all1, .long th_all2, .int rr.2.1, .int rr.2.2.1, .int rr.2.2.2])))) args s 0 0 (Aw N ad s.heap.size) = QQ
  have hS : va_S (Aw N ad s.heap.size) s.heap s.heap [] := va_S.rf
  have hA : ∀ q, s.heap.size ≤ q → (Aw N ad s.heap.size) q := fun q h => Or.inr h
  have hAd : ∀ j : Nat, j < N → (Aw N ad s.heap.size) (ad j) := fun j h => Or.inl ⟨j, h, rfl⟩
  obtain ⟨C0, hC0⟩ : ∃ C0 : Nat → va_E, C0 = C := ⟨_, rfl⟩
  have hag : ∀ i : Nat, i ≠ 60 → C i = C0 i := fun i _ => by rw [hC0]
  rw [← hC0] at hQ
  have k0 := hts (.fieldLink RX10 46 "UpDrain" "thoughts" "LUpDrain$Thoughts;") (List.mem_of_getElem? (i := 1) rfl)
  have nX10 : ∀ w ∈ u_ws RX10 TX10 9, w ∈ wsX10_forget := fun _ h => List.mem_cons_of_mem _ (List.mem_append_left _ (List.mem_append_right _ h))
  have hE := lg_entry_eq m [.ref (ad 0)] 1
  rw [← hav] at hE
  rw [hE]
  have hl := lv_entry [.ref (ad 0)] (n := 1) (Nat.le_of_ble_eq_true rfl)
  generalize (lg_sl [.ref (ad 0)] ++ List.replicate (1 - (lg_sl [.ref (ad 0)]).length) Slot.unset).toArray = ls at hl ⊢
  have hl : lv_has ls 1 [(0, .ref (ad 0))] := hl
  clear hE
  unfold f_X10_forget at hf
  suffices hgo : ∀ (H : Heap) (locs : List Loc), va_P D vwCl (wd N ad C) H → va_S (Aw N ad s.heap.size) s.heap H locs → W p l e (headSpec wsX10_forget rmX10_forget).room s m args below meth c H locs 0 0 QQ (F0 m 0 ls []) from hgo s.heap [] hP hS
  clear hS hP
  intro H locs hP hS
  refine lv_aload_n hx hb dX10_forget_0 rfl (lv_at hl 0 rfl) ?_
  refine r_get (own := RX10) (T := TX10) (n := 9) (ci := 10) (v := .ref (ad 60)) hx hb hts nX10 hown hK hP (by omega) h0 rfl 4 (by decide) k0 rfl dX10_forget_1 ?_
  obtain ⟨q1, hq1, hf⟩ := bd_e hf
  refine k_iW (va_runV (C := RX6) (As := []) (rest := []) ⟨hx, hb, hml, hown, hts⟩ (c_X6_drop (l := l) (sz := H.size)  hN hI h60 hq1) (cwV 0 hts gX10_forget_X6_drop rfl rfl rfl (by decide +kernel) ⟨Nat.le_of_ble_eq_true rfl, Nat.le_of_ble_eq_true rfl⟩) (preV_of hK hP (by omega) h60 rfl) rfl rfl hl.1 rfl (lv_room (Nat.le_of_ble_eq_true rfl)) dX10_forget_4 ⟨Nat.le_of_ble_eq_true rfl, Nat.le_of_ble_eq_true rfl⟩) hA hAd hS (fun C H locs hP hS hpo hbz_q1 => ?_)
  obtain ⟨he, h60⟩ := hpo
  have hag : ∀ i : Nat, i ≠ 60 → C i = C0 i := fun i h => (he i (by omega)).trans (hag i h)
  have h0 := (he 0 (by decide)).trans h0
  obtain rfl := Option.some.inj hf
  rw [← hQ]
  exact e_iW hx hb hr rfl (tP_i _) hP hS ⟨hag, h60⟩ hlocks dX10_forget_7

def f_X10_isSource (p0 : Int32) (t_there : Int32) (w_src : Int32) : Option (Int32) :=
  (f_X10_isThere p0 t_there).bind fun q1 =>
  if q1 = 0 then
    some (0)
  else
    (f_X10_has w_src p0).bind fun q3 =>
    if q3 = 0 then
      some (0)
    else
      some (1)
abbrev rmX10_isSource : Room := { frames := 2, cells := 0, slots := 0, locals := 42 }
set_option maxHeartbeats 4000000 in
set_option maxRecDepth 100000 in
theorem c_X10_isSource {l : Launch} {D : va_G} {g : Nat → ClassId} {N : Nat} {ad : Nat → Nat} {C : Nat → va_E} {sz : Nat} {t_there : Int32} {t_lift : Int32} {t_none : Int32} {w_src : Int32} {p0 : Int32} {rr : Int32} (hN : 86 ≤ N) (h0 : C 0 = .inr (10, [.ref (ad 1), .ref (ad 5), .ref (ad 19), .ref (ad 21), .ref (ad 60), .ref (ad 77), .ref (ad 81), .ref (ad 84), .ref (ad 85)])) (h5 : C 5 = .inr (7, [.ref (ad 6), .ref (ad 7), .ref (ad 8), .ref (ad 9), .ref (ad 10), .ref (ad 11), .ref (ad 12), .ref (ad 13), .ref (ad 14), .ref (ad 15), .ref (ad 16), .ref (ad 17), .ref (ad 18), .int t_there, .int t_lift, .int t_none])) (h19 : C 19 = .inr (9, [.ref (ad 5), .ref (ad 20), .int w_src])) (hf : f_X10_isSource p0 t_there w_src = some rr) : Met l yX10_isSource wsX10_isSource rmX10_isSource (PcW D g N ad C sz [.ref (ad 0), .int p0]) (QiR sz bz rr) 0 0 (An sz) := by
  refine Met.ofW (cc := cX10_isSource) (maxL := 2) (ret := (some .boolean)) (by decide) rfl ?_
  intro p e s m args below meth c s₁ B hml hv
  obtain ⟨hav, hsz, hK, hP⟩ := hv
  subst hsz
  have hx := B.exec
  have hb := B.bytes
  have hr := B.returns
  have hts := atoms_spec (ws := wsX10_isSource) B.pre
  have hown : s.vm.findClass RX10 = some m.cls := findClass_of_methodNamed B.named
  have hlocks := B.notSynchronized
  generalize hQ : MQ below (QiR s.heap.size bz rr) args s 0 0 (An s.heap.size) = QQ
  have hS : va_S (An s.heap.size) s.heap s.heap [] := va_S.rf
  have hA : ∀ q, s.heap.size ≤ q → (An s.heap.size) q := fun q h => h
  have k0 := hts (.fieldLink RX10 28 "UpDrain" "ways" "LUpDrain$Ways;") (List.mem_of_getElem? (i := 1) rfl)
  have nX10 : ∀ w ∈ u_ws RX10 TX10 9, w ∈ wsX10_isSource := fun _ h => List.mem_cons_of_mem _ (List.mem_append_left _ (List.mem_append_left _ (List.mem_append_right _ h)))
  have k2 := nf_55 (A := args) hK
  have nX9 : ∀ w ∈ u_ws RX9 TX9 3, w ∈ wsX10_isSource := fun _ h => List.mem_cons_of_mem _ (List.mem_append_left _ (List.mem_append_right _ h))
  have hE := lg_entry_eq m [.ref (ad 0), .int p0] 2
  rw [← hav] at hE
  rw [hE]
  have hl := lv_entry [.ref (ad 0), .int p0] (n := 2) (Nat.le_of_ble_eq_true rfl)
  generalize (lg_sl [.ref (ad 0), .int p0] ++ List.replicate (2 - (lg_sl [.ref (ad 0), .int p0]).length) Slot.unset).toArray = ls at hl ⊢
  have hl : lv_has ls 2 [(0, .ref (ad 0)), (1, .int p0)] := hl
  clear hE
  unfold f_X10_isSource at hf
  suffices hgo : ∀ (H : Heap) (locs : List Loc), va_P D vwCl (wd N ad C) H → va_S (An s.heap.size) s.heap H locs → W p l e (headSpec wsX10_isSource rmX10_isSource).room s m args below meth c H locs 0 0 QQ (F0 m 0 ls []) from hgo s.heap [] hP hS
  clear hS hP
  intro H locs hP hS
  refine lv_aload_n hx hb dX10_isSource_0 rfl (lv_at hl 0 rfl) ?_
  refine lv_iload_n hx hb dX10_isSource_1 rfl (lv_at hl 1 rfl) ?_
  obtain ⟨q1, hq1, hf⟩ := bd_e hf
  refine k_iR (va_runV (C := RX10) (As := [.int p0]) (rest := []) ⟨hx, hb, hml, hown, hts⟩ (c_X10_isThere (l := l) (sz := H.size) (p0 := p0) hN h0 h5 hq1) (cwV 1 hts gX10_isSource_X10_isThere rfl rfl rfl (by decide +kernel) ⟨Nat.le_of_ble_eq_true rfl, Nat.le_of_ble_eq_true rfl⟩) (preV_of hK hP (by omega) h0 rfl) rfl rfl hl.1 rfl (lv_room (Nat.le_of_ble_eq_true rfl)) dX10_isSource_2 ⟨Nat.le_of_ble_eq_true rfl, Nat.le_of_ble_eq_true rfl⟩) hA hP hS (fun H locs hP hS hbz_q1 => ?_)
  refine lv_if_eq (tgt := 26) hx hb dX10_isSource_5 (by decide) (fun c2 => ?_) (fun c2 => ?_)
  · have hf := it_e c2 hf
    refine lv_iconst (v := 0) hx hb dX10_isSource_26 (by decide) ?_
    obtain rfl := Option.some.inj hf
    rw [← hQ]
    exact e_zR hx hb hr rfl bz0 hS hlocks dX10_isSource_27
  · have hf := ie_e c2 hf
    refine lv_aload_n hx hb dX10_isSource_8 rfl (lv_at hl 0 rfl) ?_
    refine r_get (own := RX10) (T := TX10) (n := 9) (ci := 10) (v := .ref (ad 19)) hx hb hts nX10 hown hK hP (by omega) h0 rfl 2 (by decide) k0 rfl dX10_isSource_9 ?_
    refine r_getN (own := RX10) (T := TX9) (n := 3) (ci := 9) (v := .int w_src) hx hb hts nX9 hown hK hP (by omega) h19 rfl 2 (by decide) k2 rfl dX10_isSource_12 ?_
    refine lv_iload_n hx hb dX10_isSource_15 rfl (lv_at hl 1 rfl) ?_
    obtain ⟨q3, hq3, hf⟩ := bd_e hf
    refine k_iR (va_runS (As := [.int w_src, .int p0]) (rest := []) ⟨hx, hb, hml, hown, hts⟩ (c_X10_has (l := l) (sz := H.size) (p0 := w_src) (p1 := p0) hq3) (va_cwS 2 hts gX10_isSource_X10_has rfl rfl rfl (by decide +kernel) ⟨Nat.le_of_ble_eq_true rfl, Nat.le_of_ble_eq_true rfl⟩) preS0 rfl rfl hl.1 rfl (lv_room (Nat.le_of_ble_eq_true rfl)) dX10_isSource_16 ⟨Nat.le_of_ble_eq_true rfl, Nat.le_of_ble_eq_true rfl⟩) hA hP hS (fun H locs hP hS hbz_q3 => ?_)
    refine lv_if_eq (tgt := 26) hx hb dX10_isSource_19 (by decide) (fun c4 => ?_) (fun c4 => ?_)
    · have hf := it_e c4 hf
      refine lv_iconst (v := 0) hx hb dX10_isSource_26 (by decide) ?_
      obtain rfl := Option.some.inj hf
      rw [← hQ]
      exact e_zR hx hb hr rfl bz0 hS hlocks dX10_isSource_27
    · have hf := ie_e c4 hf
      refine lv_iconst (v := 1) hx hb dX10_isSource_22 (by decide) ?_
      refine lv_goto (tgt := 27) hx hb dX10_isSource_23 (by decide) ?_
      obtain rfl := Option.some.inj hf
      rw [← hQ]
      exact e_zR hx hb hr rfl bz1 hS hlocks dX10_isSource_27

def LX10_lowest_9  (ko : Int64 → Int64 → Int32 → Option (Int64)) : Nat → Int64 → Int64 → Int32 → Option (Int64)
  | 0, _, _, _ => none
  | n + 1, x1, x2, x3 =>
    if 200 ≤ x3 then
      ko x1 x2 x3
    else
      if (lg_cmp x2 (0 : Int64)) = 0 then
        ko x1 x2 x3
      else
        nzl (x2) <|
        lt ((x1 - x1 / x2 * x2) : Int64) fun x10 =>
        lt (x3 + 1 : Int32) fun x11 =>
        LX10_lowest_9 ko n x2 x10 x11
theorem LX10_lowest_9_z  (ko : Int64 → Int64 → Int32 → Option (Int64)) (x1 : Int64) (x2 : Int64) (x3 : Int32) : LX10_lowest_9  ko 0 x1 x2 x3 = none := rfl
theorem LX10_lowest_9_s  (ko : Int64 → Int64 → Int32 → Option (Int64)) (n : Nat) (x1 : Int64) (x2 : Int64) (x3 : Int32) : LX10_lowest_9  ko (n + 1) x1 x2 x3 =
    if 200 ≤ x3 then
      ko x1 x2 x3
    else
      if (lg_cmp x2 (0 : Int64)) = 0 then
        ko x1 x2 x3
      else
        nzl (x2) <|
        lt ((x1 - x1 / x2 * x2) : Int64) fun x10 =>
        lt (x3 + 1 : Int32) fun x11 =>
        LX10_lowest_9 ko n x2 x10 x11 := rfl
def f_X10_lowest (p0 : Int64) (p1 : Int64) (p2 : Int32) : Option (Int64) :=
  LX10_lowest_9  (fun x4 x5 x6 =>
    if (lg_cmp x4 (0 : Int64)) = 0 then
      some ((0 : Int64))
    else
      (if p2 = 0 then
        some (p0)
      else
        some (p1) : Option (Int64)).bind fun q13 =>
      nzl (x4) <|
      some ((q13 / x4))) FU p0 p1 0
abbrev rmX10_lowest : Room := { frames := 0, cells := 0, slots := 0, locals := 0 }
set_option maxHeartbeats 4000000 in
set_option maxRecDepth 100000 in
theorem c_X10_lowest {l : Launch} {sz : Nat}  {p0 : Int64} {p1 : Int64} {p2 : Int32} {rr : Int64} (hf : f_X10_lowest p0 p1 p2 = some rr) : Met l yX10_lowest wsX10_lowest rmX10_lowest (PcS sz [.long p0, .long p1, .int p2]) (QlR sz rr) 0 0 (An sz) := by
  refine Met.ofW (cc := cX10_lowest) (maxL := 12) (ret := (some .long)) (by decide) rfl ?_
  intro p e s m args below meth c s₁ B hml hv
  obtain ⟨hav, hsz⟩ := hv
  subst hsz
  have hx := B.exec
  have hb := B.bytes
  have hr := B.returns
  have hts := atoms_spec (ws := wsX10_lowest) B.pre
  have hown : s.vm.findClass RX10 = some m.cls := findClass_of_methodNamed B.named
  have hlocks := B.notSynchronized
  generalize hQ : MQ below (QlR s.heap.size rr) args s 0 0 (An s.heap.size) = QQ
  have hS : va_S (An s.heap.size) s.heap s.heap [] := va_S.rf
  have hA : ∀ q, s.heap.size ≤ q → (An s.heap.size) q := fun q h => h
  have hE := lg_entry_eq m [.long p0, .long p1, .int p2] 12
  rw [← hav] at hE
  rw [hE]
  have hl := lv_entry [.long p0, .long p1, .int p2] (n := 12) (Nat.le_of_ble_eq_true rfl)
  generalize (lg_sl [.long p0, .long p1, .int p2] ++ List.replicate (12 - (lg_sl [.long p0, .long p1, .int p2]).length) Slot.unset).toArray = ls at hl ⊢
  have hl : lv_has ls 12 [(0, .long p0), (2, .long p1), (4, .int p2)] := hl
  clear hE
  unfold f_X10_lowest at hf
  suffices hgo : ∀ (H : Heap) (locs : List Loc), va_S (An s.heap.size) s.heap H locs → W p l e (headSpec wsX10_lowest rmX10_lowest).room s m args below meth c H locs 0 0 QQ (F0 m 0 ls []) from hgo s.heap [] hS
  clear hS
  intro H locs hS
  refine lv_lload_n hx hb dX10_lowest_0 rfl (lv_at hl 0 rfl) ?_
  refine lv_lstore (lv' := [(5, .long p0), (0, .long p0), (2, .long p1), (4, .int p2)]) hx hb dX10_lowest_1 hl (by decide) rfl (fun ls hl => ?_)
  refine lv_lload_n hx hb dX10_lowest_3 rfl (lv_at hl 2 rfl) ?_
  refine lv_lstore (lv' := [(7, .long p1), (5, .long p0), (0, .long p0), (2, .long p1), (4, .int p2)]) hx hb dX10_lowest_4 hl (by decide) rfl (fun ls hl => ?_)
  refine lv_iconst (v := 0) hx hb dX10_lowest_6 (by decide) ?_
  refine lv_istore (lv' := [(9, .int 0), (7, .long p1), (5, .long p0), (0, .long p0), (2, .long p1), (4, .int p2)]) hx hb dX10_lowest_7 hl (by decide) rfl (fun ls hl => ?_)
  have key9 : ∀ (ko : Int64 → Int64 → Int32 → Option (Int64)), (∀ (x4 : Int64) (x5 : Int64) (x6 : Int32) (H : Heap) (locs : List Loc) (ls : Array Slot), va_S (An s.heap.size) s.heap H locs → lv_has ls 12 [(0, .long p0), (2, .long p1), (4, .int p2), (5, .long x4), (7, .long x5), (9, .int x6)] → ko x4 x5 x6 = some rr → W p l e (headSpec wsX10_lowest rmX10_lowest).room s m args below meth c H locs 0 0 QQ (F0 m 45 ls [])) → ∀ (n : Nat) (x1 : Int64) (x2 : Int64) (x3 : Int32) (H : Heap) (locs : List Loc) (ls : Array Slot), va_S (An s.heap.size) s.heap H locs → lv_has ls 12 [(0, .long p0), (2, .long p1), (4, .int p2), (5, .long x1), (7, .long x2), (9, .int x3)] → LX10_lowest_9  ko n x1 x2 x3 = some rr → W p l e (headSpec wsX10_lowest rmX10_lowest).room s m args below meth c H locs 0 0 QQ (F0 m 9 ls []) := by
    intro ko hko n
    induction n with
    | zero =>
      intro x1 x2 x3 H locs ls hS hl hf
      rw [LX10_lowest_9_z] at hf
      cases hf
    | succ n ih =>
      intro x1 x2 x3 H locs ls hS hl hf
      rw [LX10_lowest_9_s] at hf
      refine lv_iload hx hb dX10_lowest_9 (lv_at hl 5 rfl) ?_
      refine lv_sipush (v := 200) hx hb dX10_lowest_11 (by decide) ?_
      refine lv_icmp_ge (tgt := 45) hx hb dX10_lowest_14 (by decide) (fun c7 => ?_) (fun c7 => ?_)
      · have hf := it_e c7 hf
        exact hko x1 x2 x3 H locs ls hS (lv_sub hl [0, 1, 2, 3, 4, 5] rfl) hf
      · have hf := ie_e c7 hf
        refine lv_lload hx hb dX10_lowest_17 (lv_at hl 4 rfl) ?_
        refine lv_lconst (v := 0) hx hb dX10_lowest_19 (by decide) ?_
        refine W.lcmp hx hb dX10_lowest_20 ?_
        refine lv_if_eq (tgt := 45) hx hb dX10_lowest_21 (by decide) (fun c8 => ?_) (fun c8 => ?_)
        · have hf := it_e c8 hf
          exact hko x1 x2 x3 H locs ls hS (lv_sub hl [0, 1, 2, 3, 4, 5] rfl) hf
        · have hf := ie_e c8 hf
          refine lv_lload hx hb dX10_lowest_24 (lv_at hl 3 rfl) ?_
          refine lv_lload hx hb dX10_lowest_26 (lv_at hl 4 rfl) ?_
          obtain ⟨z9, hf⟩ := nzl_e hf
          refine lv_lrem hx hb dX10_lowest_28 z9 ?_
          obtain ⟨x10, ex10, hf⟩ := lt_e hf
          refine tp_l ex10 ?_
          refine lv_lstore (lv' := [(10, .long x10), (0, .long p0), (2, .long p1), (4, .int p2), (5, .long x1), (7, .long x2), (9, .int x3)]) hx hb dX10_lowest_29 hl (by decide) rfl (fun ls hl => ?_)
          refine lv_lload hx hb dX10_lowest_31 (lv_at hl 5 rfl) ?_
          refine lv_lstore (lv' := [(5, .long x2), (10, .long x10), (0, .long p0), (2, .long p1), (4, .int p2), (7, .long x2), (9, .int x3)]) hx hb dX10_lowest_33 hl (by decide) rfl (fun ls hl => ?_)
          refine lv_lload hx hb dX10_lowest_35 (lv_at hl 1 rfl) ?_
          refine lv_lstore (lv' := [(7, .long x10), (5, .long x2), (10, .long x10), (0, .long p0), (2, .long p1), (4, .int p2), (9, .int x3)]) hx hb dX10_lowest_37 hl (by decide) rfl (fun ls hl => ?_)
          obtain ⟨x11, ex11, hf⟩ := lt_e hf
          refine lv_iinc (v := x11) (lv' := [(9, .int x11), (7, .long x10), (5, .long x2), (10, .long x10), (0, .long p0), (2, .long p1), (4, .int p2)]) hx hb dX10_lowest_39 hl (k := 6) rfl (by rw [ex11]; rfl) (by decide) rfl (fun ls hl => ?_)
          refine lv_goto (tgt := 9) hx hb dX10_lowest_42 (by decide) ?_
          exact ih x2 x10 x11 H locs ls hS (lv_sub hl [4, 5, 6, 2, 1, 0] rfl) hf
  refine key9 _ (fun x4 x5 x6 H locs ls hS hl hf => ?_) FU p0 p1 0 H locs ls hS (lv_sub hl [3, 4, 5, 2, 1, 0] rfl) hf
  refine lv_lload hx hb dX10_lowest_45 (lv_at hl 3 rfl) ?_
  refine lv_lconst (v := 0) hx hb dX10_lowest_47 (by decide) ?_
  refine W.lcmp hx hb dX10_lowest_48 ?_
  refine lv_if_ne (tgt := 54) hx hb dX10_lowest_49 (by decide) (fun c12 => ?_) (fun c12 => ?_)
  · have hf := ie_e c12 hf
    refine lv_iload hx hb dX10_lowest_54 (lv_at hl 2 rfl) ?_
    obtain ⟨q13, htq13, hf⟩ := bd_e hf
    have jnq13 : ∀ (H : Heap) (locs : List Loc) (ls : Array Slot), va_S (An s.heap.size) s.heap H locs → lv_has ls 12 [(0, .long p0), (2, .long p1), (4, .int p2), (5, .long x4), (7, .long x5), (9, .int x6)] → W p l e (headSpec wsX10_lowest rmX10_lowest).room s m args below meth c H locs 0 0 QQ (F0 m 64 ls [.long q13]) := by
      intro H locs ls hS hl
      refine lv_lload hx hb dX10_lowest_64 (lv_at hl 3 rfl) ?_
      obtain ⟨z14, hf⟩ := nzl_e hf
      refine lv_ldiv hx hb dX10_lowest_66 z14 ?_
      obtain rfl := Option.some.inj hf
      rw [← hQ]
      exact e_lR hx hb hr rfl hS hlocks dX10_lowest_67
    clear hf
    have hf := htq13
    refine lv_if_ne (tgt := 63) hx hb dX10_lowest_56 (by decide) (fun c15 => ?_) (fun c15 => ?_)
    · have hf := ie_e c15 hf
      refine lv_lload_n hx hb dX10_lowest_63 rfl (lv_at hl 1 rfl) ?_
      obtain rfl := Option.some.inj hf
      exact jnq13 H locs ls hS (lv_sub hl [0, 1, 2, 3, 4, 5] rfl)
    · have hf := it_e c15 hf
      refine lv_lload_n hx hb dX10_lowest_59 rfl (lv_at hl 0 rfl) ?_
      refine lv_goto (tgt := 64) hx hb dX10_lowest_60 (by decide) ?_
      obtain rfl := Option.some.inj hf
      exact jnq13 H locs ls hS (lv_sub hl [0, 1, 2, 3, 4, 5] rfl)
  · have hf := it_e c12 hf
    refine lv_lconst (v := 0) hx hb dX10_lowest_52 (by decide) ?_
    obtain rfl := Option.some.inj hf
    rw [← hQ]
    exact e_lR hx hb hr rfl hS hlocks dX10_lowest_53

def f_X10_chance (p0 : Int32) (p1 : Int32) (t_lik : Nat → Int32) (t_rain : Nat → Int32) (t_tell : Nat → Int32) (t_wy : Nat → Int32) (t_wn : Nat → Int32) (t_there : Int32) (t_none : Int32) (w_src : Int32) (wa_g : Nat → Int32) (th_none : Int64) (th_all1 : Int64) (th_k1 : Int32) (th_size : Int32) (th_one : Nat → Int64) (sL : Nat → Nat → Int32) (sT : Nat → Nat → Int32) (sF : Nat → Int32) (sU : Nat → Int32) (fC : Nat → Int32) (fS : Nat → Int32) (fM : Nat → Int32) (fT : Nat → Int32) (fY : Nat → Int32) : Option (Int64 × Int64 × Int64 × Int32 × (Nat → Int64)) :=
  if p0 = (-1) then
    (f_X10_isPart p1).bind fun q2 =>
    if q2 = 0 then
      some ((-3 : Int64), th_none, th_all1, th_k1, th_one)
    else
      (f_X6_thinkOfOne t_lik t_rain t_tell t_wy t_wn t_none w_src wa_g th_none th_all1 th_k1 th_size th_one sL sT sF sU fC fS fM fT fY).bind fun q4 =>
      if (lg_cmp q4.2.1 (0 : Int64)) = 0 then
        some ((-4 : Int64), q4.1, q4.2.1, q4.2.2.1, q4.2.2.2)
      else
        (if p0 = (-1) then
          some (q4.1)
        else
          rl q4.2.2.2 12 (p0) fun x9 =>
          some (x9) : Option (Int64)).bind fun q6 =>
        (f_X10_lowest q6 q4.2.1 p1).bind fun q7 =>
        some (q7, q4.1, q4.2.1, q4.2.2.1, q4.2.2.2)
  else
    (f_X10_isSource p0 t_there w_src).bind fun q11 =>
    if q11 = 0 then
      some ((-2 : Int64), th_none, th_all1, th_k1, th_one)
    else
      (f_X10_isPart p1).bind fun q13 =>
      if q13 = 0 then
        some ((-3 : Int64), th_none, th_all1, th_k1, th_one)
      else
        (f_X6_thinkOfOne t_lik t_rain t_tell t_wy t_wn t_none w_src wa_g th_none th_all1 th_k1 th_size th_one sL sT sF sU fC fS fM fT fY).bind fun q15 =>
        if (lg_cmp q15.2.1 (0 : Int64)) = 0 then
          some ((-4 : Int64), q15.1, q15.2.1, q15.2.2.1, q15.2.2.2)
        else
          (if p0 = (-1) then
            some (q15.1)
          else
            rl q15.2.2.2 12 (p0) fun x20 =>
            some (x20) : Option (Int64)).bind fun q17 =>
          (f_X10_lowest q17 q15.2.1 p1).bind fun q18 =>
          some (q18, q15.1, q15.2.1, q15.2.2.1, q15.2.2.2)
abbrev rmX10_chance : Room := { frames := 6, cells := 0, slots := 0, locals := 149 }
set_option maxHeartbeats 4000000 in
set_option maxRecDepth 100000 in
theorem c_X10_chance {l : Launch} {D : va_G} {g : Nat → ClassId} {N : Nat} {ad : Nat → Nat} {C : Nat → va_E} {sz : Nat} {t_there : Int32} {t_lift : Int32} {t_none : Int32} {t_lik : Nat → Int32} {t_rain : Nat → Int32} {t_tell : Nat → Int32} {t_wy : Nat → Int32} {t_wn : Nat → Int32} {w_src : Int32} {wa_g : Nat → Int32} {th_none : Int64} {th_all1 : Int64} {th_all2 : Int64} {th_k1 : Int32} {th_k2 : Int32} {th_size : Int32} {th_one : Nat → Int64} {fC : Nat → Int32} {fS : Nat → Int32} {fM : Nat → Int32} {fT : Nat → Int32} {fY : Nat → Int32} {sL : Nat → Nat → Int32} {sT : Nat → Nat → Int32} {sF : Nat → Int32} {sU : Nat → Int32} {p0 : Int32} {p1 : Int32} {rr : Int64 × Int64 × Int64 × Int32 × (Nat → Int64)} (hN : 86 ≤ N) (hI : Inj N ad) (h0 : C 0 = .inr (10, [.ref (ad 1), .ref (ad 5), .ref (ad 19), .ref (ad 21), .ref (ad 60), .ref (ad 77), .ref (ad 81), .ref (ad 84), .ref (ad 85)])) (h5 : C 5 = .inr (7, [.ref (ad 6), .ref (ad 7), .ref (ad 8), .ref (ad 9), .ref (ad 10), .ref (ad 11), .ref (ad 12), .ref (ad 13), .ref (ad 14), .ref (ad 15), .ref (ad 16), .ref (ad 17), .ref (ad 18), .int t_there, .int t_lift, .int t_none])) (h11 : C 11 = aI g 12 t_lik) (h15 : C 15 = aI g 24 t_rain) (h16 : C 16 = aI g 4 t_tell) (h17 : C 17 = aI g 4 t_wy) (h18 : C 18 = aI g 4 t_wn) (h19 : C 19 = .inr (9, [.ref (ad 5), .ref (ad 20), .int w_src])) (h21 : C 21 = .inr (8, [.ref (ad 5), .ref (ad 19), .ref (ad 22), .ref (ad 23)])) (h22 : C 22 = aI g 12 wa_g) (h23 : C 23 = aS g 12 (fun i => if i < 12 then some (ad (24 + 3 * i)) else none)) (h60 : C 60 = .inr (6, [.ref (ad 5), .ref (ad 19), .ref (ad 21), .ref (ad 61), .ref (ad 62), .ref (ad 65), .ref (ad 66), .long th_none, .long th_all1, .long th_all2, .int th_k1, .int th_k2, .int th_size])) (h61 : C 61 = aF g 10 (fun i => if i < 10 then some (ad (67 + i)) else none)) (h65 : C 65 = aL g 12 th_one) (hF_ : PoolF C fC fS fM fT fY) (hS_ : PoolS g ad C sL sT sF sU) (hf : f_X10_chance p0 p1 t_lik t_rain t_tell t_wy t_wn t_there t_none w_src wa_g th_none th_all1 th_k1 th_size th_one sL sT sF sU fC fS fM fT fY = some rr) : Met l yX10_chance wsX10_chance rmX10_chance (PcW D g N ad C sz [.ref (ad 0), .int p0, .int p1]) (QlW D N ad sz rr.1 (fun C' => (∀ i : Nat, i ≠ 60 ∧ i ≠ 65 → C' i = C i) ∧ (C' 60 = .inr (6, [.ref (ad 5), .ref (ad 19), .ref (ad 21), .ref (ad 61), .ref (ad 62), .ref (ad 65), .ref (ad 66), .long rr.2.1, .long rr.2.2.1, .long th_all2, .int rr.2.2.2.1, .int th_k2, .int th_size])) ∧ (C' 65 = aL g 12 rr.2.2.2.2))) 0 0 (Aw N ad sz) := by
  refine Met.ofW (cc := cX10_chance) (maxL := 5) (ret := (some .long)) (by decide) rfl ?_
  intro p e s m args below meth c s₁ B hml hv
  obtain ⟨hav, hsz, hK, hP⟩ := hv
  subst hsz
  have hx := B.exec
  have hb := B.bytes
  have hr := B.returns
  have hts := atoms_spec (ws := wsX10_chance) B.pre
  have hown : s.vm.findClass RX10 = some m.cls := findClass_of_methodNamed B.named
  have hlocks := B.notSynchronized
  generalize hQ : MQ below (QlW D N ad s.heap.size rr.1 (fun C' => (∀ i : Nat, i ≠ 60 ∧ i ≠ 65 → C' i = C i) ∧ (C' 60 = .inr (6, [.ref (ad 5), .ref (ad 19), .ref (ad 21), .ref (ad 61), .ref (ad 62), .ref (ad 65), .ref (ad 66), .long rr.2.1, .long rr.2.2.1, .long th_all2, .int rr.2.2.2.1, .int th_k2, .int th_size])) ∧ (C' 65 = aL g 12 rr.2.2.2.2))) args s 0 0 (Aw N ad s.heap.size) = QQ
  have hS : va_S (Aw N ad s.heap.size) s.heap s.heap [] := va_S.rf
  have hA : ∀ q, s.heap.size ≤ q → (Aw N ad s.heap.size) q := fun q h => Or.inr h
  have hAd : ∀ j : Nat, j < N → (Aw N ad s.heap.size) (ad j) := fun j h => Or.inl ⟨j, h, rfl⟩
  obtain ⟨C0, hC0⟩ : ∃ C0 : Nat → va_E, C0 = C := ⟨_, rfl⟩
  have hag : ∀ i : Nat, i ≠ 60 ∧ i ≠ 65 → C i = C0 i := fun i _ => by rw [hC0]
  rw [← hC0] at hQ
  have k0 := hts (.fieldLink RX10 46 "UpDrain" "thoughts" "LUpDrain$Thoughts;") (List.mem_of_getElem? (i := 3) rfl)
  have nX10 : ∀ w ∈ u_ws RX10 TX10 9, w ∈ wsX10_chance := fun _ h => List.mem_cons_of_mem _ (List.mem_append_left _ (List.mem_append_left _ (List.mem_append_left _ (List.mem_append_left _ (List.mem_append_left _ (List.mem_append_left _ (List.mem_append_right _ h)))))))
  have k2 := nf_67 (A := args) hK
  have nX6 : ∀ w ∈ u_ws RX6 TX6 13, w ∈ wsX10_chance := fun _ h => List.mem_cons_of_mem _ (List.mem_append_left _ (List.mem_append_left _ (List.mem_append_left _ (List.mem_append_left _ (List.mem_append_left _ (List.mem_append_right _ h))))))
  have k4 := nf_64 (A := args) hK
  have k5 := nf_66 (A := args) hK
  have k6 := hts (.constantLong RX10 220 (-4)) (List.mem_of_getElem? (i := 4) rfl)
  have k7 := hts (.constantLong RX10 211 (-3)) (List.mem_of_getElem? (i := 2) rfl)
  have k8 := hts (.constantLong RX10 209 (-2)) (List.mem_of_getElem? (i := 1) rfl)
  have hE := lg_entry_eq m [.ref (ad 0), .int p0, .int p1] 5
  rw [← hav] at hE
  rw [hE]
  have hl := lv_entry [.ref (ad 0), .int p0, .int p1] (n := 5) (Nat.le_of_ble_eq_true rfl)
  generalize (lg_sl [.ref (ad 0), .int p0, .int p1] ++ List.replicate (5 - (lg_sl [.ref (ad 0), .int p0, .int p1]).length) Slot.unset).toArray = ls at hl ⊢
  have hl : lv_has ls 5 [(0, .ref (ad 0)), (1, .int p0), (2, .int p1)] := hl
  clear hE
  unfold f_X10_chance at hf
  suffices hgo : ∀ (H : Heap) (locs : List Loc), va_P D vwCl (wd N ad C) H → va_S (Aw N ad s.heap.size) s.heap H locs → W p l e (headSpec wsX10_chance rmX10_chance).room s m args below meth c H locs 0 0 QQ (F0 m 0 ls []) from hgo s.heap [] hP hS
  clear hS hP
  intro H locs hP hS
  refine lv_iload_n hx hb dX10_chance_0 rfl (lv_at hl 1 rfl) ?_
  refine lv_iconst (v := (-1)) hx hb dX10_chance_1 (by decide) ?_
  refine lv_icmp_eq (tgt := 17) hx hb dX10_chance_2 (by decide) (fun c1 => ?_) (fun c1 => ?_)
  · have hf := it_e c1 hf
    refine lv_iload_n hx hb dX10_chance_17 rfl (lv_at hl 2 rfl) ?_
    obtain ⟨q2, hq2, hf⟩ := bd_e hf
    refine k_iR (va_runS (As := [.int p1]) (rest := []) ⟨hx, hb, hml, hown, hts⟩ (c_X10_isPart (l := l) (sz := H.size) (p0 := p1) hq2) (va_cwS 1 hts gX10_chance_X10_isPart rfl rfl rfl (by decide +kernel) ⟨Nat.le_of_ble_eq_true rfl, Nat.le_of_ble_eq_true rfl⟩) preS0 rfl rfl hl.1 rfl (lv_room (Nat.le_of_ble_eq_true rfl)) dX10_chance_18 ⟨Nat.le_of_ble_eq_true rfl, Nat.le_of_ble_eq_true rfl⟩) hA hP hS (fun H locs hP hS hbz_q2 => ?_)
    refine lv_if_ne (tgt := 28) hx hb dX10_chance_21 (by decide) (fun c3 => ?_) (fun c3 => ?_)
    · have hf := ie_e c3 hf
      refine lv_aload_n hx hb dX10_chance_28 rfl (lv_at hl 0 rfl) ?_
      refine r_get (own := RX10) (T := TX10) (n := 9) (ci := 10) (v := .ref (ad 60)) hx hb hts nX10 hown hK hP (by omega) h0 rfl 4 (by decide) k0 rfl dX10_chance_29 ?_
      obtain ⟨q4, hq4, hf⟩ := bd_e hf
      refine k_vW (va_runV (C := RX6) (As := []) (rest := []) ⟨hx, hb, hml, hown, hts⟩ (c_X6_thinkOfOne (l := l) (sz := H.size)  hN hI h5 h11 h15 h16 h17 h18 h19 h21 h22 h23 h60 h61 h65 hF_ hS_ hq4) (cwV 0 hts gX10_chance_X6_thinkOfOne rfl rfl rfl (by decide +kernel) ⟨Nat.le_of_ble_eq_true rfl, Nat.le_of_ble_eq_true rfl⟩) (preV_of hK hP (by omega) h60 rfl) rfl rfl hl.1 rfl (lv_room (Nat.le_of_ble_eq_true rfl)) dX10_chance_32 ⟨Nat.le_of_ble_eq_true rfl, Nat.le_of_ble_eq_true rfl⟩) hA hAd hS (fun C H locs hP hS hpo => ?_)
      obtain ⟨he, h60, h65⟩ := hpo
      have hag : ∀ i : Nat, i ≠ 60 ∧ i ≠ 65 → C i = C0 i := fun i h => (he i (by omega)).trans (hag i h)
      have h0 := (he 0 (by decide)).trans h0
      have h5 := (he 5 (by decide)).trans h5
      have h11 := (he 11 (by decide)).trans h11
      have h15 := (he 15 (by decide)).trans h15
      have h16 := (he 16 (by decide)).trans h16
      have h17 := (he 17 (by decide)).trans h17
      have h18 := (he 18 (by decide)).trans h18
      have h19 := (he 19 (by decide)).trans h19
      have h21 := (he 21 (by decide)).trans h21
      have h22 := (he 22 (by decide)).trans h22
      have h23 := (he 23 (by decide)).trans h23
      have h61 := (he 61 (by decide)).trans h61
      have hF_ := hF_.ne (fun i h1 => he i (by omega))
      have hS_ := hS_.ne (fun i h1 h2 => he i (by omega))
      refine lv_aload_n hx hb dX10_chance_35 rfl (lv_at hl 0 rfl) ?_
      refine r_get (own := RX10) (T := TX10) (n := 9) (ci := 10) (v := .ref (ad 60)) hx hb hts nX10 hown hK hP (by omega) h0 rfl 4 (by decide) k0 rfl dX10_chance_36 ?_
      refine r_getN (own := RX10) (T := TX6) (n := 13) (ci := 6) (v := .long q4.2.1) hx hb hts nX6 hown hK hP (by omega) h60 rfl 8 (by decide) k2 rfl dX10_chance_39 ?_
      refine lv_lstore_n (lv' := [(3, .long q4.2.1), (0, .ref (ad 0)), (1, .int p0), (2, .int p1)]) hx hb dX10_chance_42 rfl hl (by decide) rfl (fun ls hl => ?_)
      refine lv_lload_n hx hb dX10_chance_43 rfl (lv_at hl 0 rfl) ?_
      refine lv_lconst (v := 0) hx hb dX10_chance_44 (by decide) ?_
      refine W.lcmp hx hb dX10_chance_45 ?_
      refine lv_if_ne (tgt := 53) hx hb dX10_chance_46 (by decide) (fun c5 => ?_) (fun c5 => ?_)
      · have hf := ie_e c5 hf
        refine lv_iload_n hx hb dX10_chance_53 rfl (lv_at hl 2 rfl) ?_
        refine lv_iconst (v := (-1)) hx hb dX10_chance_54 (by decide) ?_
        obtain ⟨q6, htq6, hf⟩ := bd_e hf
        have jnq6 : ∀ (C : Nat → va_E) (H : Heap) (locs : List Loc) (ls : Array Slot), va_P D vwCl (wd N ad C) H → va_S (Aw N ad s.heap.size) s.heap H locs → (∀ i : Nat, i ≠ 60 ∧ i ≠ 65 → C i = C0 i) → C 0 = .inr (10, [.ref (ad 1), .ref (ad 5), .ref (ad 19), .ref (ad 21), .ref (ad 60), .ref (ad 77), .ref (ad 81), .ref (ad 84), .ref (ad 85)]) → C 5 = .inr (7, [.ref (ad 6), .ref (ad 7), .ref (ad 8), .ref (ad 9), .ref (ad 10), .ref (ad 11), .ref (ad 12), .ref (ad 13), .ref (ad 14), .ref (ad 15), .ref (ad 16), .ref (ad 17), .ref (ad 18), .int t_there, .int t_lift, .int t_none]) → C 11 = aI g 12 t_lik → C 15 = aI g 24 t_rain → C 16 = aI g 4 t_tell → C 17 = aI g 4 t_wy → C 18 = aI g 4 t_wn → C 19 = .inr (9, [.ref (ad 5), .ref (ad 20), .int w_src]) → C 21 = .inr (8, [.ref (ad 5), .ref (ad 19), .ref (ad 22), .ref (ad 23)]) → C 22 = aI g 12 wa_g → C 23 = aS g 12 (fun i => if i < 12 then some (ad (24 + 3 * i)) else none) → C 60 = .inr (6, [.ref (ad 5), .ref (ad 19), .ref (ad 21), .ref (ad 61), .ref (ad 62), .ref (ad 65), .ref (ad 66), .long q4.1, .long q4.2.1, .long th_all2, .int q4.2.2.1, .int th_k2, .int th_size]) → C 61 = aF g 10 (fun i => if i < 10 then some (ad (67 + i)) else none) → C 65 = aL g 12 q4.2.2.2 → PoolF C fC fS fM fT fY → PoolS g ad C sL sT sF sU → lv_has ls 5 [(0, .ref (ad 0)), (1, .int p0), (2, .int p1), (3, .long q4.2.1)] → W p l e (headSpec wsX10_chance rmX10_chance).room s m args below meth c H locs 0 0 QQ (F0 m 77 ls [.long q6]) := by
          intro C H locs ls hP hS hag h0 h5 h11 h15 h16 h17 h18 h19 h21 h22 h23 h60 h61 h65 hF_ hS_ hl
          refine lv_lload_n hx hb dX10_chance_77 rfl (lv_at hl 3 rfl) ?_
          refine lv_iload_n hx hb dX10_chance_78 rfl (lv_at hl 2 rfl) ?_
          obtain ⟨q7, hq7, hf⟩ := bd_e hf
          refine k_lR (va_runS (As := [.long q6, .long q4.2.1, .int p1]) (rest := []) ⟨hx, hb, hml, hown, hts⟩ (c_X10_lowest (l := l) (sz := H.size) (p0 := q6) (p1 := q4.2.1) (p2 := p1) hq7) (va_cwS 3 hts gX10_chance_X10_lowest rfl rfl rfl (by decide +kernel) ⟨Nat.le_of_ble_eq_true rfl, Nat.le_of_ble_eq_true rfl⟩) preS0 rfl rfl hl.1 rfl (lv_room (Nat.le_of_ble_eq_true rfl)) dX10_chance_79 ⟨Nat.le_of_ble_eq_true rfl, Nat.le_of_ble_eq_true rfl⟩) hA hP hS (fun H locs hP hS => ?_)
          obtain rfl := Option.some.inj hf
          rw [← hQ]
          exact e_lW hx hb hr rfl hP hS ⟨hag, h60, h65⟩ hlocks dX10_chance_82
        clear hf
        have hf := htq6
        refine lv_icmp_ne (tgt := 68) hx hb dX10_chance_55 (by decide) (fun c8 => ?_) (fun c8 => ?_)
        · have hf := ie_e c8 hf
          refine lv_aload_n hx hb dX10_chance_68 rfl (lv_at hl 1 rfl) ?_
          refine r_get (own := RX10) (T := TX10) (n := 9) (ci := 10) (v := .ref (ad 60)) hx hb hts nX10 hown hK hP (by omega) h0 rfl 4 (by decide) k0 rfl dX10_chance_69 ?_
          refine r_getN (own := RX10) (T := TX6) (n := 13) (ci := 6) (v := .ref (ad 65)) hx hb hts nX6 hown hK hP (by omega) h60 rfl 5 (by decide) k4 rfl dX10_chance_72 ?_
          refine lv_iload_n hx hb dX10_chance_75 rfl (lv_at hl 2 rfl) ?_
          obtain ⟨i10, x9, ex9, hf⟩ := rl_e hf
          refine r_lald hx hb hK hP (by omega) h65 i10 dX10_chance_76 ex9 ?_
          obtain rfl := Option.some.inj hf
          exact jnq6 C H locs ls hP hS hag h0 h5 h11 h15 h16 h17 h18 h19 h21 h22 h23 h60 h61 h65 hF_ hS_ (lv_sub hl [1, 2, 3, 0] rfl)
        · have hf := it_e c8 hf
          refine lv_aload_n hx hb dX10_chance_58 rfl (lv_at hl 1 rfl) ?_
          refine r_get (own := RX10) (T := TX10) (n := 9) (ci := 10) (v := .ref (ad 60)) hx hb hts nX10 hown hK hP (by omega) h0 rfl 4 (by decide) k0 rfl dX10_chance_59 ?_
          refine r_getN (own := RX10) (T := TX6) (n := 13) (ci := 6) (v := .long q4.1) hx hb hts nX6 hown hK hP (by omega) h60 rfl 7 (by decide) k5 rfl dX10_chance_62 ?_
          refine lv_goto (tgt := 77) hx hb dX10_chance_65 (by decide) ?_
          obtain rfl := Option.some.inj hf
          exact jnq6 C H locs ls hP hS hag h0 h5 h11 h15 h16 h17 h18 h19 h21 h22 h23 h60 h61 h65 hF_ hS_ (lv_sub hl [1, 2, 3, 0] rfl)
      · have hf := it_e c5 hf
        refine lv_ldc2 (own := RX10) hx hb hown k6 dX10_chance_49 ?_
        obtain rfl := Option.some.inj hf
        rw [← hQ]
        exact e_lW hx hb hr rfl hP hS ⟨hag, h60, h65⟩ hlocks dX10_chance_52
    · have hf := it_e c3 hf
      refine lv_ldc2 (own := RX10) hx hb hown k7 dX10_chance_24 ?_
      obtain rfl := Option.some.inj hf
      rw [← hQ]
      exact e_lW hx hb hr rfl hP hS ⟨hag, h60, h65⟩ hlocks dX10_chance_27
  · have hf := ie_e c1 hf
    refine lv_aload_n hx hb dX10_chance_5 rfl (lv_at hl 0 rfl) ?_
    refine lv_iload_n hx hb dX10_chance_6 rfl (lv_at hl 1 rfl) ?_
    obtain ⟨q11, hq11, hf⟩ := bd_e hf
    refine k_iR (va_runV (C := RX10) (As := [.int p0]) (rest := []) ⟨hx, hb, hml, hown, hts⟩ (c_X10_isSource (l := l) (sz := H.size) (p0 := p0) hN h0 h5 h19 hq11) (cwV 1 hts gX10_chance_X10_isSource rfl rfl rfl (by decide +kernel) ⟨Nat.le_of_ble_eq_true rfl, Nat.le_of_ble_eq_true rfl⟩) (preV_of hK hP (by omega) h0 rfl) rfl rfl hl.1 rfl (lv_room (Nat.le_of_ble_eq_true rfl)) dX10_chance_7 ⟨Nat.le_of_ble_eq_true rfl, Nat.le_of_ble_eq_true rfl⟩) hA hP hS (fun H locs hP hS hbz_q11 => ?_)
    refine lv_if_ne (tgt := 17) hx hb dX10_chance_10 (by decide) (fun c12 => ?_) (fun c12 => ?_)
    · have hf := ie_e c12 hf
      refine lv_iload_n hx hb dX10_chance_17 rfl (lv_at hl 2 rfl) ?_
      obtain ⟨q13, hq13, hf⟩ := bd_e hf
      refine k_iR (va_runS (As := [.int p1]) (rest := []) ⟨hx, hb, hml, hown, hts⟩ (c_X10_isPart (l := l) (sz := H.size) (p0 := p1) hq13) (va_cwS 1 hts gX10_chance_X10_isPart rfl rfl rfl (by decide +kernel) ⟨Nat.le_of_ble_eq_true rfl, Nat.le_of_ble_eq_true rfl⟩) preS0 rfl rfl hl.1 rfl (lv_room (Nat.le_of_ble_eq_true rfl)) dX10_chance_18 ⟨Nat.le_of_ble_eq_true rfl, Nat.le_of_ble_eq_true rfl⟩) hA hP hS (fun H locs hP hS hbz_q13 => ?_)
      refine lv_if_ne (tgt := 28) hx hb dX10_chance_21 (by decide) (fun c14 => ?_) (fun c14 => ?_)
      · have hf := ie_e c14 hf
        refine lv_aload_n hx hb dX10_chance_28 rfl (lv_at hl 0 rfl) ?_
        refine r_get (own := RX10) (T := TX10) (n := 9) (ci := 10) (v := .ref (ad 60)) hx hb hts nX10 hown hK hP (by omega) h0 rfl 4 (by decide) k0 rfl dX10_chance_29 ?_
        obtain ⟨q15, hq15, hf⟩ := bd_e hf
        refine k_vW (va_runV (C := RX6) (As := []) (rest := []) ⟨hx, hb, hml, hown, hts⟩ (c_X6_thinkOfOne (l := l) (sz := H.size)  hN hI h5 h11 h15 h16 h17 h18 h19 h21 h22 h23 h60 h61 h65 hF_ hS_ hq15) (cwV 0 hts gX10_chance_X6_thinkOfOne rfl rfl rfl (by decide +kernel) ⟨Nat.le_of_ble_eq_true rfl, Nat.le_of_ble_eq_true rfl⟩) (preV_of hK hP (by omega) h60 rfl) rfl rfl hl.1 rfl (lv_room (Nat.le_of_ble_eq_true rfl)) dX10_chance_32 ⟨Nat.le_of_ble_eq_true rfl, Nat.le_of_ble_eq_true rfl⟩) hA hAd hS (fun C H locs hP hS hpo => ?_)
        obtain ⟨he, h60, h65⟩ := hpo
        have hag : ∀ i : Nat, i ≠ 60 ∧ i ≠ 65 → C i = C0 i := fun i h => (he i (by omega)).trans (hag i h)
        have h0 := (he 0 (by decide)).trans h0
        have h5 := (he 5 (by decide)).trans h5
        have h11 := (he 11 (by decide)).trans h11
        have h15 := (he 15 (by decide)).trans h15
        have h16 := (he 16 (by decide)).trans h16
        have h17 := (he 17 (by decide)).trans h17
        have h18 := (he 18 (by decide)).trans h18
        have h19 := (he 19 (by decide)).trans h19
        have h21 := (he 21 (by decide)).trans h21
        have h22 := (he 22 (by decide)).trans h22
        have h23 := (he 23 (by decide)).trans h23
        have h61 := (he 61 (by decide)).trans h61
        have hF_ := hF_.ne (fun i h1 => he i (by omega))
        have hS_ := hS_.ne (fun i h1 h2 => he i (by omega))
        refine lv_aload_n hx hb dX10_chance_35 rfl (lv_at hl 0 rfl) ?_
        refine r_get (own := RX10) (T := TX10) (n := 9) (ci := 10) (v := .ref (ad 60)) hx hb hts nX10 hown hK hP (by omega) h0 rfl 4 (by decide) k0 rfl dX10_chance_36 ?_
        refine r_getN (own := RX10) (T := TX6) (n := 13) (ci := 6) (v := .long q15.2.1) hx hb hts nX6 hown hK hP (by omega) h60 rfl 8 (by decide) k2 rfl dX10_chance_39 ?_
        refine lv_lstore_n (lv' := [(3, .long q15.2.1), (0, .ref (ad 0)), (1, .int p0), (2, .int p1)]) hx hb dX10_chance_42 rfl hl (by decide) rfl (fun ls hl => ?_)
        refine lv_lload_n hx hb dX10_chance_43 rfl (lv_at hl 0 rfl) ?_
        refine lv_lconst (v := 0) hx hb dX10_chance_44 (by decide) ?_
        refine W.lcmp hx hb dX10_chance_45 ?_
        refine lv_if_ne (tgt := 53) hx hb dX10_chance_46 (by decide) (fun c16 => ?_) (fun c16 => ?_)
        · have hf := ie_e c16 hf
          refine lv_iload_n hx hb dX10_chance_53 rfl (lv_at hl 2 rfl) ?_
          refine lv_iconst (v := (-1)) hx hb dX10_chance_54 (by decide) ?_
          obtain ⟨q17, htq17, hf⟩ := bd_e hf
          have jnq17 : ∀ (C : Nat → va_E) (H : Heap) (locs : List Loc) (ls : Array Slot), va_P D vwCl (wd N ad C) H → va_S (Aw N ad s.heap.size) s.heap H locs → (∀ i : Nat, i ≠ 60 ∧ i ≠ 65 → C i = C0 i) → C 0 = .inr (10, [.ref (ad 1), .ref (ad 5), .ref (ad 19), .ref (ad 21), .ref (ad 60), .ref (ad 77), .ref (ad 81), .ref (ad 84), .ref (ad 85)]) → C 5 = .inr (7, [.ref (ad 6), .ref (ad 7), .ref (ad 8), .ref (ad 9), .ref (ad 10), .ref (ad 11), .ref (ad 12), .ref (ad 13), .ref (ad 14), .ref (ad 15), .ref (ad 16), .ref (ad 17), .ref (ad 18), .int t_there, .int t_lift, .int t_none]) → C 11 = aI g 12 t_lik → C 15 = aI g 24 t_rain → C 16 = aI g 4 t_tell → C 17 = aI g 4 t_wy → C 18 = aI g 4 t_wn → C 19 = .inr (9, [.ref (ad 5), .ref (ad 20), .int w_src]) → C 21 = .inr (8, [.ref (ad 5), .ref (ad 19), .ref (ad 22), .ref (ad 23)]) → C 22 = aI g 12 wa_g → C 23 = aS g 12 (fun i => if i < 12 then some (ad (24 + 3 * i)) else none) → C 60 = .inr (6, [.ref (ad 5), .ref (ad 19), .ref (ad 21), .ref (ad 61), .ref (ad 62), .ref (ad 65), .ref (ad 66), .long q15.1, .long q15.2.1, .long th_all2, .int q15.2.2.1, .int th_k2, .int th_size]) → C 61 = aF g 10 (fun i => if i < 10 then some (ad (67 + i)) else none) → C 65 = aL g 12 q15.2.2.2 → PoolF C fC fS fM fT fY → PoolS g ad C sL sT sF sU → lv_has ls 5 [(0, .ref (ad 0)), (1, .int p0), (2, .int p1), (3, .long q15.2.1)] → W p l e (headSpec wsX10_chance rmX10_chance).room s m args below meth c H locs 0 0 QQ (F0 m 77 ls [.long q17]) := by
            intro C H locs ls hP hS hag h0 h5 h11 h15 h16 h17 h18 h19 h21 h22 h23 h60 h61 h65 hF_ hS_ hl
            refine lv_lload_n hx hb dX10_chance_77 rfl (lv_at hl 3 rfl) ?_
            refine lv_iload_n hx hb dX10_chance_78 rfl (lv_at hl 2 rfl) ?_
            obtain ⟨q18, hq18, hf⟩ := bd_e hf
            refine k_lR (va_runS (As := [.long q17, .long q15.2.1, .int p1]) (rest := []) ⟨hx, hb, hml, hown, hts⟩ (c_X10_lowest (l := l) (sz := H.size) (p0 := q17) (p1 := q15.2.1) (p2 := p1) hq18) (va_cwS 3 hts gX10_chance_X10_lowest rfl rfl rfl (by decide +kernel) ⟨Nat.le_of_ble_eq_true rfl, Nat.le_of_ble_eq_true rfl⟩) preS0 rfl rfl hl.1 rfl (lv_room (Nat.le_of_ble_eq_true rfl)) dX10_chance_79 ⟨Nat.le_of_ble_eq_true rfl, Nat.le_of_ble_eq_true rfl⟩) hA hP hS (fun H locs hP hS => ?_)
            obtain rfl := Option.some.inj hf
            rw [← hQ]
            exact e_lW hx hb hr rfl hP hS ⟨hag, h60, h65⟩ hlocks dX10_chance_82
          clear hf
          have hf := htq17
          refine lv_icmp_ne (tgt := 68) hx hb dX10_chance_55 (by decide) (fun c19 => ?_) (fun c19 => ?_)
          · have hf := ie_e c19 hf
            refine lv_aload_n hx hb dX10_chance_68 rfl (lv_at hl 1 rfl) ?_
            refine r_get (own := RX10) (T := TX10) (n := 9) (ci := 10) (v := .ref (ad 60)) hx hb hts nX10 hown hK hP (by omega) h0 rfl 4 (by decide) k0 rfl dX10_chance_69 ?_
            refine r_getN (own := RX10) (T := TX6) (n := 13) (ci := 6) (v := .ref (ad 65)) hx hb hts nX6 hown hK hP (by omega) h60 rfl 5 (by decide) k4 rfl dX10_chance_72 ?_
            refine lv_iload_n hx hb dX10_chance_75 rfl (lv_at hl 2 rfl) ?_
            obtain ⟨i21, x20, ex20, hf⟩ := rl_e hf
            refine r_lald hx hb hK hP (by omega) h65 i21 dX10_chance_76 ex20 ?_
            obtain rfl := Option.some.inj hf
            exact jnq17 C H locs ls hP hS hag h0 h5 h11 h15 h16 h17 h18 h19 h21 h22 h23 h60 h61 h65 hF_ hS_ (lv_sub hl [1, 2, 3, 0] rfl)
          · have hf := it_e c19 hf
            refine lv_aload_n hx hb dX10_chance_58 rfl (lv_at hl 1 rfl) ?_
            refine r_get (own := RX10) (T := TX10) (n := 9) (ci := 10) (v := .ref (ad 60)) hx hb hts nX10 hown hK hP (by omega) h0 rfl 4 (by decide) k0 rfl dX10_chance_59 ?_
            refine r_getN (own := RX10) (T := TX6) (n := 13) (ci := 6) (v := .long q15.1) hx hb hts nX6 hown hK hP (by omega) h60 rfl 7 (by decide) k5 rfl dX10_chance_62 ?_
            refine lv_goto (tgt := 77) hx hb dX10_chance_65 (by decide) ?_
            obtain rfl := Option.some.inj hf
            exact jnq17 C H locs ls hP hS hag h0 h5 h11 h15 h16 h17 h18 h19 h21 h22 h23 h60 h61 h65 hF_ hS_ (lv_sub hl [1, 2, 3, 0] rfl)
        · have hf := it_e c16 hf
          refine lv_ldc2 (own := RX10) hx hb hown k6 dX10_chance_49 ?_
          obtain rfl := Option.some.inj hf
          rw [← hQ]
          exact e_lW hx hb hr rfl hP hS ⟨hag, h60, h65⟩ hlocks dX10_chance_52
      · have hf := it_e c14 hf
        refine lv_ldc2 (own := RX10) hx hb hown k7 dX10_chance_24 ?_
        obtain rfl := Option.some.inj hf
        rw [← hQ]
        exact e_lW hx hb hr rfl hP hS ⟨hag, h60, h65⟩ hlocks dX10_chance_27
    · have hf := it_e c12 hf
      refine lv_ldc2 (own := RX10) hx hb hown k8 dX10_chance_13 ?_
      obtain rfl := Option.some.inj hf
      rw [← hQ]
      exact e_lW hx hb hr rfl hP hS ⟨hag, h60, h65⟩ hlocks dX10_chance_16

def f_X10_two (p0 : Int32) (p1 : Int32) (p2 : Int32) (t_lik : Nat → Int32) (t_rain : Nat → Int32) (t_tell : Nat → Int32) (t_wy : Nat → Int32) (t_wn : Nat → Int32) (t_there : Int32) (w_src : Int32) (wa_g : Nat → Int32) (th_all2 : Int64) (th_k2 : Int32) (th_size : Int32) (th_two : Nat → Int64) (sL : Nat → Nat → Int32) (sT : Nat → Nat → Int32) (sF : Nat → Int32) (sU : Nat → Int32) (fC : Nat → Int32) (fS : Nat → Int32) (fM : Nat → Int32) (fT : Nat → Int32) (fY : Nat → Int32) : Option (Int64 × Int64 × Int32 × (Nat → Int64)) :=
  (f_X10_isSource p0 t_there w_src).bind fun q1 =>
  if q1 = 0 then
    some ((-2 : Int64), th_all2, th_k2, th_two)
  else
    (f_X10_isSource p1 t_there w_src).bind fun q3 =>
    if q3 = 0 then
      some ((-2 : Int64), th_all2, th_k2, th_two)
    else
      if p0 = p1 then
        some ((-2 : Int64), th_all2, th_k2, th_two)
      else
        (f_X10_isPart p2).bind fun q6 =>
        if q6 = 0 then
          some ((-3 : Int64), th_all2, th_k2, th_two)
        else
          (f_X6_thinkOfTwo t_lik t_rain t_tell t_wy t_wn w_src wa_g th_all2 th_k2 th_size th_two sL sT sF sU fC fS fM fT fY).bind fun q8 =>
          if (lg_cmp q8.1 (0 : Int64)) = 0 then
            some ((-4 : Int64), q8.1, q8.2.1, q8.2.2)
          else
            rl q8.2.2 144 (((p0 * 12) + p1)) fun x10 =>
            (f_X10_lowest x10 q8.1 p2).bind fun q12 =>
            some (q12, q8.1, q8.2.1, q8.2.2)
abbrev rmX10_two : Room := { frames := 6, cells := 0, slots := 0, locals := 154 }
set_option maxHeartbeats 4000000 in
set_option maxRecDepth 100000 in
theorem c_X10_two {l : Launch} {D : va_G} {g : Nat → ClassId} {N : Nat} {ad : Nat → Nat} {C : Nat → va_E} {sz : Nat} {t_there : Int32} {t_lift : Int32} {t_none : Int32} {t_lik : Nat → Int32} {t_rain : Nat → Int32} {t_tell : Nat → Int32} {t_wy : Nat → Int32} {t_wn : Nat → Int32} {w_src : Int32} {wa_g : Nat → Int32} {th_none : Int64} {th_all1 : Int64} {th_all2 : Int64} {th_k1 : Int32} {th_k2 : Int32} {th_size : Int32} {th_two : Nat → Int64} {fC : Nat → Int32} {fS : Nat → Int32} {fM : Nat → Int32} {fT : Nat → Int32} {fY : Nat → Int32} {sL : Nat → Nat → Int32} {sT : Nat → Nat → Int32} {sF : Nat → Int32} {sU : Nat → Int32} {p0 : Int32} {p1 : Int32} {p2 : Int32} {rr : Int64 × Int64 × Int32 × (Nat → Int64)} (hN : 86 ≤ N) (hI : Inj N ad) (h0 : C 0 = .inr (10, [.ref (ad 1), .ref (ad 5), .ref (ad 19), .ref (ad 21), .ref (ad 60), .ref (ad 77), .ref (ad 81), .ref (ad 84), .ref (ad 85)])) (h5 : C 5 = .inr (7, [.ref (ad 6), .ref (ad 7), .ref (ad 8), .ref (ad 9), .ref (ad 10), .ref (ad 11), .ref (ad 12), .ref (ad 13), .ref (ad 14), .ref (ad 15), .ref (ad 16), .ref (ad 17), .ref (ad 18), .int t_there, .int t_lift, .int t_none])) (h11 : C 11 = aI g 12 t_lik) (h15 : C 15 = aI g 24 t_rain) (h16 : C 16 = aI g 4 t_tell) (h17 : C 17 = aI g 4 t_wy) (h18 : C 18 = aI g 4 t_wn) (h19 : C 19 = .inr (9, [.ref (ad 5), .ref (ad 20), .int w_src])) (h21 : C 21 = .inr (8, [.ref (ad 5), .ref (ad 19), .ref (ad 22), .ref (ad 23)])) (h22 : C 22 = aI g 12 wa_g) (h23 : C 23 = aS g 12 (fun i => if i < 12 then some (ad (24 + 3 * i)) else none)) (h60 : C 60 = .inr (6, [.ref (ad 5), .ref (ad 19), .ref (ad 21), .ref (ad 61), .ref (ad 62), .ref (ad 65), .ref (ad 66), .long th_none, .long th_all1, .long th_all2, .int th_k1, .int th_k2, .int th_size])) (h61 : C 61 = aF g 10 (fun i => if i < 10 then some (ad (67 + i)) else none)) (h66 : C 66 = aL g 144 th_two) (hF_ : PoolF C fC fS fM fT fY) (hS_ : PoolS g ad C sL sT sF sU) (hf : f_X10_two p0 p1 p2 t_lik t_rain t_tell t_wy t_wn t_there w_src wa_g th_all2 th_k2 th_size th_two sL sT sF sU fC fS fM fT fY = some rr) : Met l yX10_two wsX10_two rmX10_two (PcW D g N ad C sz [.ref (ad 0), .int p0, .int p1, .int p2]) (QlW D N ad sz rr.1 (fun C' => (∀ i : Nat, i ≠ 60 ∧ i ≠ 66 → C' i = C i) ∧ (C' 60 = .inr (6, [.ref (ad 5), .ref (ad 19), .ref (ad 21), .ref (ad 61), .ref (ad 62), .ref (ad 65), .ref (ad 66), .long th_none, .long th_all1, .long rr.2.1, .int th_k1, .int rr.2.2.1, .int th_size])) ∧ (C' 66 = aL g 144 rr.2.2.2))) 0 0 (Aw N ad sz) := by
  refine Met.ofW (cc := cX10_two) (maxL := 6) (ret := (some .long)) (by decide) rfl ?_
  intro p e s m args below meth c s₁ B hml hv
  obtain ⟨hav, hsz, hK, hP⟩ := hv
  subst hsz
  have hx := B.exec
  have hb := B.bytes
  have hr := B.returns
  have hts := atoms_spec (ws := wsX10_two) B.pre
  have hown : s.vm.findClass RX10 = some m.cls := findClass_of_methodNamed B.named
  have hlocks := B.notSynchronized
  generalize hQ : MQ below (QlW D N ad s.heap.size rr.1 (fun C' => (∀ i : Nat, i ≠ 60 ∧ i ≠ 66 → C' i = C i) ∧ (C' 60 = .inr (6, [.ref (ad 5), .ref (ad 19), .ref (ad 21), .ref (ad 61), .ref (ad 62), .ref (ad 65), .ref (ad 66), .long th_none, .long th_all1, .long rr.2.1, .int th_k1, .int rr.2.2.1, .int th_size])) ∧ (C' 66 = aL g 144 rr.2.2.2))) args s 0 0 (Aw N ad s.heap.size) = QQ
  have hS : va_S (Aw N ad s.heap.size) s.heap s.heap [] := va_S.rf
  have hA : ∀ q, s.heap.size ≤ q → (Aw N ad s.heap.size) q := fun q h => Or.inr h
  have hAd : ∀ j : Nat, j < N → (Aw N ad s.heap.size) (ad j) := fun j h => Or.inl ⟨j, h, rfl⟩
  obtain ⟨C0, hC0⟩ : ∃ C0 : Nat → va_E, C0 = C := ⟨_, rfl⟩
  have hag : ∀ i : Nat, i ≠ 60 ∧ i ≠ 66 → C i = C0 i := fun i _ => by rw [hC0]
  rw [← hC0] at hQ
  have k0 := hts (.constantLong RX10 209 (-2)) (List.mem_of_getElem? (i := 1) rfl)
  have k1 := hts (.fieldLink RX10 46 "UpDrain" "thoughts" "LUpDrain$Thoughts;") (List.mem_of_getElem? (i := 3) rfl)
  have nX10 : ∀ w ∈ u_ws RX10 TX10 9, w ∈ wsX10_two := fun _ h => List.mem_cons_of_mem _ (List.mem_append_left _ (List.mem_append_left _ (List.mem_append_left _ (List.mem_append_left _ (List.mem_append_left _ (List.mem_append_left _ (List.mem_append_right _ h)))))))
  have k3 := nf_68 (A := args) hK
  have nX6 : ∀ w ∈ u_ws RX6 TX6 13, w ∈ wsX10_two := fun _ h => List.mem_cons_of_mem _ (List.mem_append_left _ (List.mem_append_left _ (List.mem_append_left _ (List.mem_append_left _ (List.mem_append_left _ (List.mem_append_right _ h))))))
  have k5 := nf_65 (A := args) hK
  have k6 := hts (.constantLong RX10 220 (-4)) (List.mem_of_getElem? (i := 4) rfl)
  have k7 := hts (.constantLong RX10 211 (-3)) (List.mem_of_getElem? (i := 2) rfl)
  have hE := lg_entry_eq m [.ref (ad 0), .int p0, .int p1, .int p2] 6
  rw [← hav] at hE
  rw [hE]
  have hl := lv_entry [.ref (ad 0), .int p0, .int p1, .int p2] (n := 6) (Nat.le_of_ble_eq_true rfl)
  generalize (lg_sl [.ref (ad 0), .int p0, .int p1, .int p2] ++ List.replicate (6 - (lg_sl [.ref (ad 0), .int p0, .int p1, .int p2]).length) Slot.unset).toArray = ls at hl ⊢
  have hl : lv_has ls 6 [(0, .ref (ad 0)), (1, .int p0), (2, .int p1), (3, .int p2)] := hl
  clear hE
  unfold f_X10_two at hf
  suffices hgo : ∀ (H : Heap) (locs : List Loc), va_P D vwCl (wd N ad C) H → va_S (Aw N ad s.heap.size) s.heap H locs → W p l e (headSpec wsX10_two rmX10_two).room s m args below meth c H locs 0 0 QQ (F0 m 0 ls []) from hgo s.heap [] hP hS
  clear hS hP
  intro H locs hP hS
  refine lv_aload_n hx hb dX10_two_0 rfl (lv_at hl 0 rfl) ?_
  refine lv_iload_n hx hb dX10_two_1 rfl (lv_at hl 1 rfl) ?_
  obtain ⟨q1, hq1, hf⟩ := bd_e hf
  refine k_iR (va_runV (C := RX10) (As := [.int p0]) (rest := []) ⟨hx, hb, hml, hown, hts⟩ (c_X10_isSource (l := l) (sz := H.size) (p0 := p0) hN h0 h5 h19 hq1) (cwV 1 hts gX10_two_X10_isSource rfl rfl rfl (by decide +kernel) ⟨Nat.le_of_ble_eq_true rfl, Nat.le_of_ble_eq_true rfl⟩) (preV_of hK hP (by omega) h0 rfl) rfl rfl hl.1 rfl (lv_room (Nat.le_of_ble_eq_true rfl)) dX10_two_2 ⟨Nat.le_of_ble_eq_true rfl, Nat.le_of_ble_eq_true rfl⟩) hA hP hS (fun H locs hP hS hbz_q1 => ?_)
  refine lv_if_eq (tgt := 21) hx hb dX10_two_5 (by decide) (fun c2 => ?_) (fun c2 => ?_)
  · have hf := it_e c2 hf
    refine lv_ldc2 (own := RX10) hx hb hown k0 dX10_two_21 ?_
    obtain rfl := Option.some.inj hf
    rw [← hQ]
    exact e_lW hx hb hr rfl hP hS ⟨hag, h60, h66⟩ hlocks dX10_two_24
  · have hf := ie_e c2 hf
    refine lv_aload_n hx hb dX10_two_8 rfl (lv_at hl 0 rfl) ?_
    refine lv_iload_n hx hb dX10_two_9 rfl (lv_at hl 2 rfl) ?_
    obtain ⟨q3, hq3, hf⟩ := bd_e hf
    refine k_iR (va_runV (C := RX10) (As := [.int p1]) (rest := []) ⟨hx, hb, hml, hown, hts⟩ (c_X10_isSource (l := l) (sz := H.size) (p0 := p1) hN h0 h5 h19 hq3) (cwV 1 hts gX10_two_X10_isSource rfl rfl rfl (by decide +kernel) ⟨Nat.le_of_ble_eq_true rfl, Nat.le_of_ble_eq_true rfl⟩) (preV_of hK hP (by omega) h0 rfl) rfl rfl hl.1 rfl (lv_room (Nat.le_of_ble_eq_true rfl)) dX10_two_10 ⟨Nat.le_of_ble_eq_true rfl, Nat.le_of_ble_eq_true rfl⟩) hA hP hS (fun H locs hP hS hbz_q3 => ?_)
    refine lv_if_eq (tgt := 21) hx hb dX10_two_13 (by decide) (fun c4 => ?_) (fun c4 => ?_)
    · have hf := it_e c4 hf
      refine lv_ldc2 (own := RX10) hx hb hown k0 dX10_two_21 ?_
      obtain rfl := Option.some.inj hf
      rw [← hQ]
      exact e_lW hx hb hr rfl hP hS ⟨hag, h60, h66⟩ hlocks dX10_two_24
    · have hf := ie_e c4 hf
      refine lv_iload_n hx hb dX10_two_16 rfl (lv_at hl 1 rfl) ?_
      refine lv_iload_n hx hb dX10_two_17 rfl (lv_at hl 2 rfl) ?_
      refine lv_icmp_ne (tgt := 25) hx hb dX10_two_18 (by decide) (fun c5 => ?_) (fun c5 => ?_)
      · have hf := ie_e c5 hf
        refine lv_iload_n hx hb dX10_two_25 rfl (lv_at hl 3 rfl) ?_
        obtain ⟨q6, hq6, hf⟩ := bd_e hf
        refine k_iR (va_runS (As := [.int p2]) (rest := []) ⟨hx, hb, hml, hown, hts⟩ (c_X10_isPart (l := l) (sz := H.size) (p0 := p2) hq6) (va_cwS 1 hts gX10_two_X10_isPart rfl rfl rfl (by decide +kernel) ⟨Nat.le_of_ble_eq_true rfl, Nat.le_of_ble_eq_true rfl⟩) preS0 rfl rfl hl.1 rfl (lv_room (Nat.le_of_ble_eq_true rfl)) dX10_two_26 ⟨Nat.le_of_ble_eq_true rfl, Nat.le_of_ble_eq_true rfl⟩) hA hP hS (fun H locs hP hS hbz_q6 => ?_)
        refine lv_if_ne (tgt := 36) hx hb dX10_two_29 (by decide) (fun c7 => ?_) (fun c7 => ?_)
        · have hf := ie_e c7 hf
          refine lv_aload_n hx hb dX10_two_36 rfl (lv_at hl 0 rfl) ?_
          refine r_get (own := RX10) (T := TX10) (n := 9) (ci := 10) (v := .ref (ad 60)) hx hb hts nX10 hown hK hP (by omega) h0 rfl 4 (by decide) k1 rfl dX10_two_37 ?_
          obtain ⟨q8, hq8, hf⟩ := bd_e hf
          refine k_vW (va_runV (C := RX6) (As := []) (rest := []) ⟨hx, hb, hml, hown, hts⟩ (c_X6_thinkOfTwo (l := l) (sz := H.size)  hN hI h5 h11 h15 h16 h17 h18 h19 h21 h22 h23 h60 h61 h66 hF_ hS_ hq8) (cwV 0 hts gX10_two_X6_thinkOfTwo rfl rfl rfl (by decide +kernel) ⟨Nat.le_of_ble_eq_true rfl, Nat.le_of_ble_eq_true rfl⟩) (preV_of hK hP (by omega) h60 rfl) rfl rfl hl.1 rfl (lv_room (Nat.le_of_ble_eq_true rfl)) dX10_two_40 ⟨Nat.le_of_ble_eq_true rfl, Nat.le_of_ble_eq_true rfl⟩) hA hAd hS (fun C H locs hP hS hpo => ?_)
          obtain ⟨he, h60, h66⟩ := hpo
          have hag : ∀ i : Nat, i ≠ 60 ∧ i ≠ 66 → C i = C0 i := fun i h => (he i (by omega)).trans (hag i h)
          have h0 := (he 0 (by decide)).trans h0
          have h5 := (he 5 (by decide)).trans h5
          have h11 := (he 11 (by decide)).trans h11
          have h15 := (he 15 (by decide)).trans h15
          have h16 := (he 16 (by decide)).trans h16
          have h17 := (he 17 (by decide)).trans h17
          have h18 := (he 18 (by decide)).trans h18
          have h19 := (he 19 (by decide)).trans h19
          have h21 := (he 21 (by decide)).trans h21
          have h22 := (he 22 (by decide)).trans h22
          have h23 := (he 23 (by decide)).trans h23
          have h61 := (he 61 (by decide)).trans h61
          have hF_ := hF_.ne (fun i h1 => he i (by omega))
          have hS_ := hS_.ne (fun i h1 h2 => he i (by omega))
          refine lv_aload_n hx hb dX10_two_43 rfl (lv_at hl 0 rfl) ?_
          refine r_get (own := RX10) (T := TX10) (n := 9) (ci := 10) (v := .ref (ad 60)) hx hb hts nX10 hown hK hP (by omega) h0 rfl 4 (by decide) k1 rfl dX10_two_44 ?_
          refine r_getN (own := RX10) (T := TX6) (n := 13) (ci := 6) (v := .long q8.1) hx hb hts nX6 hown hK hP (by omega) h60 rfl 9 (by decide) k3 rfl dX10_two_47 ?_
          refine lv_lstore (lv' := [(4, .long q8.1), (0, .ref (ad 0)), (1, .int p0), (2, .int p1), (3, .int p2)]) hx hb dX10_two_50 hl (by decide) rfl (fun ls hl => ?_)
          refine lv_lload hx hb dX10_two_52 (lv_at hl 0 rfl) ?_
          refine lv_lconst (v := 0) hx hb dX10_two_54 (by decide) ?_
          refine W.lcmp hx hb dX10_two_55 ?_
          refine lv_if_ne (tgt := 65) hx hb dX10_two_56 (by decide) (fun c9 => ?_) (fun c9 => ?_)
          · have hf := ie_e c9 hf
            refine lv_aload_n hx hb dX10_two_65 rfl (lv_at hl 1 rfl) ?_
            refine r_get (own := RX10) (T := TX10) (n := 9) (ci := 10) (v := .ref (ad 60)) hx hb hts nX10 hown hK hP (by omega) h0 rfl 4 (by decide) k1 rfl dX10_two_66 ?_
            refine r_getN (own := RX10) (T := TX6) (n := 13) (ci := 6) (v := .ref (ad 66)) hx hb hts nX6 hown hK hP (by omega) h60 rfl 6 (by decide) k5 rfl dX10_two_69 ?_
            refine lv_iload_n hx hb dX10_two_72 rfl (lv_at hl 2 rfl) ?_
            refine lv_bipush (v := 12) hx hb dX10_two_73 (by decide) ?_
            refine lv_imul hx hb dX10_two_75 ?_
            refine lv_iload_n hx hb dX10_two_76 rfl (lv_at hl 3 rfl) ?_
            refine lv_iadd hx hb dX10_two_77 ?_
            obtain ⟨i11, x10, ex10, hf⟩ := rl_e hf
            refine r_lald hx hb hK hP (by omega) h66 i11 dX10_two_78 ex10 ?_
            refine lv_lload hx hb dX10_two_79 (lv_at hl 0 rfl) ?_
            refine lv_iload_n hx hb dX10_two_81 rfl (lv_at hl 4 rfl) ?_
            obtain ⟨q12, hq12, hf⟩ := bd_e hf
            refine k_lR (va_runS (As := [.long x10, .long q8.1, .int p2]) (rest := []) ⟨hx, hb, hml, hown, hts⟩ (c_X10_lowest (l := l) (sz := H.size) (p0 := x10) (p1 := q8.1) (p2 := p2) hq12) (va_cwS 3 hts gX10_two_X10_lowest rfl rfl rfl (by decide +kernel) ⟨Nat.le_of_ble_eq_true rfl, Nat.le_of_ble_eq_true rfl⟩) preS0 rfl rfl hl.1 rfl (lv_room (Nat.le_of_ble_eq_true rfl)) dX10_two_82 ⟨Nat.le_of_ble_eq_true rfl, Nat.le_of_ble_eq_true rfl⟩) hA hP hS (fun H locs hP hS => ?_)
            obtain rfl := Option.some.inj hf
            rw [← hQ]
            exact e_lW hx hb hr rfl hP hS ⟨hag, h60, h66⟩ hlocks dX10_two_85
          · have hf := it_e c9 hf
            refine lv_ldc2 (own := RX10) hx hb hown k6 dX10_two_59 ?_
            refine lv_goto (tgt := 85) hx hb dX10_two_62 (by decide) ?_
            obtain rfl := Option.some.inj hf
            rw [← hQ]
            exact e_lW hx hb hr rfl hP hS ⟨hag, h60, h66⟩ hlocks dX10_two_85
        · have hf := it_e c7 hf
          refine lv_ldc2 (own := RX10) hx hb hown k7 dX10_two_32 ?_
          obtain rfl := Option.some.inj hf
          rw [← hQ]
          exact e_lW hx hb hr rfl hP hS ⟨hag, h60, h66⟩ hlocks dX10_two_35
      · have hf := it_e c5 hf
        refine lv_ldc2 (own := RX10) hx hb hown k0 dX10_two_21 ?_
        obtain rfl := Option.some.inj hf
        rw [← hQ]
        exact e_lW hx hb hr rfl hP hS ⟨hag, h60, h66⟩ hlocks dX10_two_24

def f_X10_worth (p0 : Int32) (p1 : Int32) (p2 : Int32) (p3 : Int32) (p4 : Int32) (t_lik : Nat → Int32) (t_rain : Nat → Int32) (t_tell : Nat → Int32) (t_wy : Nat → Int32) (t_wn : Nat → Int32) (t_there : Int32) (t_none : Int32) (w_src : Int32) (wa_g : Nat → Int32) (th_none : Int64) (th_all1 : Int64) (th_k1 : Int32) (th_size : Int32) (th_one : Nat → Int64) (sL : Nat → Nat → Int32) (sT : Nat → Nat → Int32) (sF : Nat → Int32) (sU : Nat → Int32) (fC : Nat → Int32) (fS : Nat → Int32) (fM : Nat → Int32) (fT : Nat → Int32) (fY : Nat → Int32) : Option (Int64 × Int64 × Int64 × Int32 × (Nat → Int64) × (Nat → Int32) × (Nat → Int32) × (Nat → Int32) × (Nat → Int32) × (Nat → Int32)) :=
  (f_X10_isCup p0).bind fun q1 =>
  if q1 = 0 then
    some ((-2 : Int64), th_none, th_all1, th_k1, th_one, fC, fS, fM, fT, fY)
  else
    (f_X10_canFill p1 p2 p3 t_there).bind fun q3 =>
    if q3 = 0 then
      some ((-3 : Int64), th_none, th_all1, th_k1, th_one, fC, fS, fM, fT, fY)
    else
      (f_X10_isPart p4).bind fun q5 =>
      if q5 = 0 then
        some ((-3 : Int64), th_none, th_all1, th_k1, th_one, fC, fS, fM, fT, fY)
      else
        (f_X6_thinkOfOne t_lik t_rain t_tell t_wy t_wn t_none w_src wa_g th_none th_all1 th_k1 th_size th_one sL sT sF sU fC fS fM fT fY).bind fun q7 =>
        if (lg_cmp q7.2.1 (0 : Int64)) = 0 then
          some ((-4 : Int64), q7.1, q7.2.1, q7.2.2.1, q7.2.2.2, fC, fS, fM, fT, fY)
        else
          (f_X1_put 85 p0 p1 p2 p3 1 fC fS fM fT fY).bind fun q9 =>
          (f_X6_tenthsOf 85 t_rain t_tell t_wy t_wn wa_g q7.1 q7.2.2.2 sL sT sF sU q9.1 q9.2.1 q9.2.2.1 q9.2.2.2.1 q9.2.2.2.2).bind fun q10 =>
          (f_X10_lowest q10 ((10 : Int64) * q7.2.1) p4).bind fun q11 =>
          some (q11, q7.1, q7.2.1, q7.2.2.1, q7.2.2.2, q9.1, q9.2.1, q9.2.2.1, q9.2.2.2.1, q9.2.2.2.2)
abbrev rmX10_worth : Room := { frames := 6, cells := 0, slots := 0, locals := 149 }
set_option maxHeartbeats 4000000 in
set_option maxRecDepth 100000 in
theorem c_X10_worth {l : Launch} {D : va_G} {g : Nat → ClassId} {N : Nat} {ad : Nat → Nat} {C : Nat → va_E} {sz : Nat} {t_there : Int32} {t_lift : Int32} {t_none : Int32} {t_lik : Nat → Int32} {t_rain : Nat → Int32} {t_tell : Nat → Int32} {t_wy : Nat → Int32} {t_wn : Nat → Int32} {w_src : Int32} {wa_g : Nat → Int32} {th_none : Int64} {th_all1 : Int64} {th_all2 : Int64} {th_k1 : Int32} {th_k2 : Int32} {th_size : Int32} {th_one : Nat → Int64} {fC : Nat → Int32} {fS : Nat → Int32} {fM : Nat → Int32} {fT : Nat → Int32} {fY : Nat → Int32} {sL : Nat → Nat → Int32} {sT : Nat → Nat → Int32} {sF : Nat → Int32} {sU : Nat → Int32} {p0 : Int32} {p1 : Int32} {p2 : Int32} {p3 : Int32} {p4 : Int32} {rr : Int64 × Int64 × Int64 × Int32 × (Nat → Int64) × (Nat → Int32) × (Nat → Int32) × (Nat → Int32) × (Nat → Int32) × (Nat → Int32)} (hN : 86 ≤ N) (hI : Inj N ad) (h0 : C 0 = .inr (10, [.ref (ad 1), .ref (ad 5), .ref (ad 19), .ref (ad 21), .ref (ad 60), .ref (ad 77), .ref (ad 81), .ref (ad 84), .ref (ad 85)])) (h5 : C 5 = .inr (7, [.ref (ad 6), .ref (ad 7), .ref (ad 8), .ref (ad 9), .ref (ad 10), .ref (ad 11), .ref (ad 12), .ref (ad 13), .ref (ad 14), .ref (ad 15), .ref (ad 16), .ref (ad 17), .ref (ad 18), .int t_there, .int t_lift, .int t_none])) (h11 : C 11 = aI g 12 t_lik) (h15 : C 15 = aI g 24 t_rain) (h16 : C 16 = aI g 4 t_tell) (h17 : C 17 = aI g 4 t_wy) (h18 : C 18 = aI g 4 t_wn) (h19 : C 19 = .inr (9, [.ref (ad 5), .ref (ad 20), .int w_src])) (h21 : C 21 = .inr (8, [.ref (ad 5), .ref (ad 19), .ref (ad 22), .ref (ad 23)])) (h22 : C 22 = aI g 12 wa_g) (h23 : C 23 = aS g 12 (fun i => if i < 12 then some (ad (24 + 3 * i)) else none)) (h60 : C 60 = .inr (6, [.ref (ad 5), .ref (ad 19), .ref (ad 21), .ref (ad 61), .ref (ad 62), .ref (ad 65), .ref (ad 66), .long th_none, .long th_all1, .long th_all2, .int th_k1, .int th_k2, .int th_size])) (h61 : C 61 = aF g 10 (fun i => if i < 10 then some (ad (67 + i)) else none)) (h65 : C 65 = aL g 12 th_one) (hF_ : PoolF C fC fS fM fT fY) (hS_ : PoolS g ad C sL sT sF sU) (hf : f_X10_worth p0 p1 p2 p3 p4 t_lik t_rain t_tell t_wy t_wn t_there t_none w_src wa_g th_none th_all1 th_k1 th_size th_one sL sT sF sU fC fS fM fT fY = some rr) : Met l yX10_worth wsX10_worth rmX10_worth (PcW D g N ad C sz [.ref (ad 0), .int p0, .int p1, .int p2, .int p3, .int p4]) (QlW D N ad sz rr.1 (fun C' => (∀ i : Nat, i ≠ 60 ∧ i ≠ 65 ∧ (i < 67 ∨ 76 < i) ∧ i ≠ 85 → C' i = C i) ∧ (C' 60 = .inr (6, [.ref (ad 5), .ref (ad 19), .ref (ad 21), .ref (ad 61), .ref (ad 62), .ref (ad 65), .ref (ad 66), .long rr.2.1, .long rr.2.2.1, .long th_all2, .int rr.2.2.2.1, .int th_k2, .int th_size])) ∧ (C' 65 = aL g 12 rr.2.2.2.2.1) ∧ (PoolF C' rr.2.2.2.2.2.1 rr.2.2.2.2.2.2.1 rr.2.2.2.2.2.2.2.1 rr.2.2.2.2.2.2.2.2.1 rr.2.2.2.2.2.2.2.2.2))) 0 0 (Aw N ad sz) := by
  refine Met.ofW (cc := cX10_worth) (maxL := 6) (ret := (some .long)) (by decide) rfl ?_
  intro p e s m args below meth c s₁ B hml hv
  obtain ⟨hav, hsz, hK, hP⟩ := hv
  subst hsz
  have hx := B.exec
  have hb := B.bytes
  have hr := B.returns
  have hts := atoms_spec (ws := wsX10_worth) B.pre
  have hown : s.vm.findClass RX10 = some m.cls := findClass_of_methodNamed B.named
  have hlocks := B.notSynchronized
  generalize hQ : MQ below (QlW D N ad s.heap.size rr.1 (fun C' => (∀ i : Nat, i ≠ 60 ∧ i ≠ 65 ∧ (i < 67 ∨ 76 < i) ∧ i ≠ 85 → C' i = C i) ∧ (C' 60 = .inr (6, [.ref (ad 5), .ref (ad 19), .ref (ad 21), .ref (ad 61), .ref (ad 62), .ref (ad 65), .ref (ad 66), .long rr.2.1, .long rr.2.2.1, .long th_all2, .int rr.2.2.2.1, .int th_k2, .int th_size])) ∧ (C' 65 = aL g 12 rr.2.2.2.2.1) ∧ (PoolF C' rr.2.2.2.2.2.1 rr.2.2.2.2.2.2.1 rr.2.2.2.2.2.2.2.1 rr.2.2.2.2.2.2.2.2.1 rr.2.2.2.2.2.2.2.2.2))) args s 0 0 (Aw N ad s.heap.size) = QQ
  have hS : va_S (Aw N ad s.heap.size) s.heap s.heap [] := va_S.rf
  have hA : ∀ q, s.heap.size ≤ q → (Aw N ad s.heap.size) q := fun q h => Or.inr h
  have hAd : ∀ j : Nat, j < N → (Aw N ad s.heap.size) (ad j) := fun j h => Or.inl ⟨j, h, rfl⟩
  obtain ⟨C0, hC0⟩ : ∃ C0 : Nat → va_E, C0 = C := ⟨_, rfl⟩
  have hag : ∀ i : Nat, i ≠ 60 ∧ i ≠ 65 ∧ (i < 67 ∨ 76 < i) ∧ i ≠ 85 → C i = C0 i := fun i _ => by rw [hC0]
  rw [← hC0] at hQ
  have k0 := hts (.constantLong RX10 211 (-3)) (List.mem_of_getElem? (i := 2) rfl)
  have k1 := hts (.fieldLink RX10 46 "UpDrain" "thoughts" "LUpDrain$Thoughts;") (List.mem_of_getElem? (i := 3) rfl)
  have nX10 : ∀ w ∈ u_ws RX10 TX10 9, w ∈ wsX10_worth := fun _ h => List.mem_cons_of_mem _ (List.mem_append_left _ (List.mem_append_left _ (List.mem_append_left _ (List.mem_append_left _ (List.mem_append_left _ (List.mem_append_left _ (List.mem_append_right _ h)))))))
  have k3 := nf_67 (A := args) hK
  have nX6 : ∀ w ∈ u_ws RX6 TX6 13, w ∈ wsX10_worth := fun _ h => List.mem_cons_of_mem _ (List.mem_append_left _ (List.mem_append_left _ (List.mem_append_left _ (List.mem_append_left _ (List.mem_append_left _ (List.mem_append_right _ h))))))
  have k5 := hts (.fieldLink RX10 76 "UpDrain" "asked" "LUpDrain$Filling;") (List.mem_of_getElem? (i := 5) rfl)
  have k6 := hts (.constantLong RX10 246 (10)) (List.mem_of_getElem? (i := 6) rfl)
  have k7 := hts (.constantLong RX10 220 (-4)) (List.mem_of_getElem? (i := 4) rfl)
  have k8 := hts (.constantLong RX10 209 (-2)) (List.mem_of_getElem? (i := 1) rfl)
  have hE := lg_entry_eq m [.ref (ad 0), .int p0, .int p1, .int p2, .int p3, .int p4] 6
  rw [← hav] at hE
  rw [hE]
  have hl := lv_entry [.ref (ad 0), .int p0, .int p1, .int p2, .int p3, .int p4] (n := 6) (Nat.le_of_ble_eq_true rfl)
  generalize (lg_sl [.ref (ad 0), .int p0, .int p1, .int p2, .int p3, .int p4] ++ List.replicate (6 - (lg_sl [.ref (ad 0), .int p0, .int p1, .int p2, .int p3, .int p4]).length) Slot.unset).toArray = ls at hl ⊢
  have hl : lv_has ls 6 [(0, .ref (ad 0)), (1, .int p0), (2, .int p1), (3, .int p2), (4, .int p3), (5, .int p4)] := hl
  clear hE
  unfold f_X10_worth at hf
  suffices hgo : ∀ (H : Heap) (locs : List Loc), va_P D vwCl (wd N ad C) H → va_S (Aw N ad s.heap.size) s.heap H locs → W p l e (headSpec wsX10_worth rmX10_worth).room s m args below meth c H locs 0 0 QQ (F0 m 0 ls []) from hgo s.heap [] hP hS
  clear hS hP
  intro H locs hP hS
  refine lv_iload_n hx hb dX10_worth_0 rfl (lv_at hl 1 rfl) ?_
  obtain ⟨q1, hq1, hf⟩ := bd_e hf
  refine k_iR (va_runS (As := [.int p0]) (rest := []) ⟨hx, hb, hml, hown, hts⟩ (c_X10_isCup (l := l) (sz := H.size) (p0 := p0) hq1) (va_cwS 1 hts gX10_worth_X10_isCup rfl rfl rfl (by decide +kernel) ⟨Nat.le_of_ble_eq_true rfl, Nat.le_of_ble_eq_true rfl⟩) preS0 rfl rfl hl.1 rfl (lv_room (Nat.le_of_ble_eq_true rfl)) dX10_worth_1 ⟨Nat.le_of_ble_eq_true rfl, Nat.le_of_ble_eq_true rfl⟩) hA hP hS (fun H locs hP hS hbz_q1 => ?_)
  refine lv_if_ne (tgt := 11) hx hb dX10_worth_4 (by decide) (fun c2 => ?_) (fun c2 => ?_)
  · have hf := ie_e c2 hf
    refine lv_aload_n hx hb dX10_worth_11 rfl (lv_at hl 0 rfl) ?_
    refine lv_iload_n hx hb dX10_worth_12 rfl (lv_at hl 2 rfl) ?_
    refine lv_iload_n hx hb dX10_worth_13 rfl (lv_at hl 3 rfl) ?_
    refine lv_iload hx hb dX10_worth_14 (lv_at hl 4 rfl) ?_
    obtain ⟨q3, hq3, hf⟩ := bd_e hf
    refine k_iR (va_runV (C := RX10) (As := [.int p1, .int p2, .int p3]) (rest := []) ⟨hx, hb, hml, hown, hts⟩ (c_X10_canFill (l := l) (sz := H.size) (p0 := p1) (p1 := p2) (p2 := p3) hN h0 h5 hq3) (cwV 3 hts gX10_worth_X10_canFill rfl rfl rfl (by decide +kernel) ⟨Nat.le_of_ble_eq_true rfl, Nat.le_of_ble_eq_true rfl⟩) (preV_of hK hP (by omega) h0 rfl) rfl rfl hl.1 rfl (lv_room (Nat.le_of_ble_eq_true rfl)) dX10_worth_16 ⟨Nat.le_of_ble_eq_true rfl, Nat.le_of_ble_eq_true rfl⟩) hA hP hS (fun H locs hP hS hbz_q3 => ?_)
    refine lv_if_eq (tgt := 30) hx hb dX10_worth_19 (by decide) (fun c4 => ?_) (fun c4 => ?_)
    · have hf := it_e c4 hf
      refine lv_ldc2 (own := RX10) hx hb hown k0 dX10_worth_30 ?_
      obtain rfl := Option.some.inj hf
      rw [← hQ]
      exact e_lW hx hb hr rfl hP hS ⟨hag, h60, h65, hF_⟩ hlocks dX10_worth_33
    · have hf := ie_e c4 hf
      refine lv_iload hx hb dX10_worth_22 (lv_at hl 5 rfl) ?_
      obtain ⟨q5, hq5, hf⟩ := bd_e hf
      refine k_iR (va_runS (As := [.int p4]) (rest := []) ⟨hx, hb, hml, hown, hts⟩ (c_X10_isPart (l := l) (sz := H.size) (p0 := p4) hq5) (va_cwS 1 hts gX10_worth_X10_isPart rfl rfl rfl (by decide +kernel) ⟨Nat.le_of_ble_eq_true rfl, Nat.le_of_ble_eq_true rfl⟩) preS0 rfl rfl hl.1 rfl (lv_room (Nat.le_of_ble_eq_true rfl)) dX10_worth_24 ⟨Nat.le_of_ble_eq_true rfl, Nat.le_of_ble_eq_true rfl⟩) hA hP hS (fun H locs hP hS hbz_q5 => ?_)
      refine lv_if_ne (tgt := 34) hx hb dX10_worth_27 (by decide) (fun c6 => ?_) (fun c6 => ?_)
      · have hf := ie_e c6 hf
        refine lv_aload_n hx hb dX10_worth_34 rfl (lv_at hl 0 rfl) ?_
        refine r_get (own := RX10) (T := TX10) (n := 9) (ci := 10) (v := .ref (ad 60)) hx hb hts nX10 hown hK hP (by omega) h0 rfl 4 (by decide) k1 rfl dX10_worth_35 ?_
        obtain ⟨q7, hq7, hf⟩ := bd_e hf
        refine k_vW (va_runV (C := RX6) (As := []) (rest := []) ⟨hx, hb, hml, hown, hts⟩ (c_X6_thinkOfOne (l := l) (sz := H.size)  hN hI h5 h11 h15 h16 h17 h18 h19 h21 h22 h23 h60 h61 h65 hF_ hS_ hq7) (cwV 0 hts gX10_worth_X6_thinkOfOne rfl rfl rfl (by decide +kernel) ⟨Nat.le_of_ble_eq_true rfl, Nat.le_of_ble_eq_true rfl⟩) (preV_of hK hP (by omega) h60 rfl) rfl rfl hl.1 rfl (lv_room (Nat.le_of_ble_eq_true rfl)) dX10_worth_38 ⟨Nat.le_of_ble_eq_true rfl, Nat.le_of_ble_eq_true rfl⟩) hA hAd hS (fun C H locs hP hS hpo => ?_)
        obtain ⟨he, h60, h65⟩ := hpo
        have hag : ∀ i : Nat, i ≠ 60 ∧ i ≠ 65 ∧ (i < 67 ∨ 76 < i) ∧ i ≠ 85 → C i = C0 i := fun i h => (he i (by omega)).trans (hag i h)
        have h0 := (he 0 (by decide)).trans h0
        have h5 := (he 5 (by decide)).trans h5
        have h11 := (he 11 (by decide)).trans h11
        have h15 := (he 15 (by decide)).trans h15
        have h16 := (he 16 (by decide)).trans h16
        have h17 := (he 17 (by decide)).trans h17
        have h18 := (he 18 (by decide)).trans h18
        have h19 := (he 19 (by decide)).trans h19
        have h21 := (he 21 (by decide)).trans h21
        have h22 := (he 22 (by decide)).trans h22
        have h23 := (he 23 (by decide)).trans h23
        have h61 := (he 61 (by decide)).trans h61
        have hF_ := hF_.ne (fun i h1 => he i (by omega))
        have hS_ := hS_.ne (fun i h1 h2 => he i (by omega))
        refine lv_aload_n hx hb dX10_worth_41 rfl (lv_at hl 0 rfl) ?_
        refine r_get (own := RX10) (T := TX10) (n := 9) (ci := 10) (v := .ref (ad 60)) hx hb hts nX10 hown hK hP (by omega) h0 rfl 4 (by decide) k1 rfl dX10_worth_42 ?_
        refine r_getN (own := RX10) (T := TX6) (n := 13) (ci := 6) (v := .long q7.2.1) hx hb hts nX6 hown hK hP (by omega) h60 rfl 8 (by decide) k3 rfl dX10_worth_45 ?_
        refine lv_lconst (v := 0) hx hb dX10_worth_48 (by decide) ?_
        refine W.lcmp hx hb dX10_worth_49 ?_
        refine lv_if_ne (tgt := 57) hx hb dX10_worth_50 (by decide) (fun c8 => ?_) (fun c8 => ?_)
        · have hf := ie_e c8 hf
          refine lv_aload_n hx hb dX10_worth_57 rfl (lv_at hl 0 rfl) ?_
          refine r_get (own := RX10) (T := TX10) (n := 9) (ci := 10) (v := .ref (ad 85)) hx hb hts nX10 hown hK hP (by omega) h0 rfl 8 (by decide) k5 rfl dX10_worth_58 ?_
          refine lv_iload_n hx hb dX10_worth_61 rfl (lv_at hl 1 rfl) ?_
          refine lv_iload_n hx hb dX10_worth_62 rfl (lv_at hl 2 rfl) ?_
          refine lv_iload_n hx hb dX10_worth_63 rfl (lv_at hl 3 rfl) ?_
          refine lv_iload hx hb dX10_worth_64 (lv_at hl 4 rfl) ?_
          refine lv_iconst (v := 1) hx hb dX10_worth_66 (by decide) ?_
          obtain ⟨q9, hq9, hf⟩ := bd_e hf
          refine k_vW (va_runV (C := RX1) (As := [.int p0, .int p1, .int p2, .int p3, .int 1]) (rest := []) ⟨hx, hb, hml, hown, hts⟩ (c_X1_put (l := l) (sz := H.size) (p0 := p0) (p1 := p1) (p2 := p2) (p3 := p3) (p4 := 1) (b := 85) hN hI bz1 isFB_a hF_ hq9) (cwV 5 hts gX10_worth_X1_put rfl rfl rfl (by decide +kernel) ⟨Nat.le_of_ble_eq_true rfl, Nat.le_of_ble_eq_true rfl⟩) (preV_of hK hP (isFB_0 hN isFB_a) (hF_ 85 isFB_a) rfl) rfl rfl hl.1 rfl (lv_room (Nat.le_of_ble_eq_true rfl)) dX10_worth_67 ⟨Nat.le_of_ble_eq_true rfl, Nat.le_of_ble_eq_true rfl⟩) hA hAd hS (fun C H locs hP hS hpo => ?_)
          obtain ⟨he, hF_⟩ := hpo
          have hag : ∀ i : Nat, i ≠ 60 ∧ i ≠ 65 ∧ (i < 67 ∨ 76 < i) ∧ i ≠ 85 → C i = C0 i := fun i h => (he i (by omega)).trans (hag i h)
          have h0 := (he 0 (by decide)).trans h0
          have h5 := (he 5 (by decide)).trans h5
          have h11 := (he 11 (by decide)).trans h11
          have h15 := (he 15 (by decide)).trans h15
          have h16 := (he 16 (by decide)).trans h16
          have h17 := (he 17 (by decide)).trans h17
          have h18 := (he 18 (by decide)).trans h18
          have h19 := (he 19 (by decide)).trans h19
          have h21 := (he 21 (by decide)).trans h21
          have h22 := (he 22 (by decide)).trans h22
          have h23 := (he 23 (by decide)).trans h23
          have h60 := (he 60 (by decide)).trans h60
          have h61 := (he 61 (by decide)).trans h61
          have h65 := (he 65 (by decide)).trans h65
          have hS_ := hS_.ne (fun i h1 h2 => he i (by omega))
          refine lv_aload_n hx hb dX10_worth_70 rfl (lv_at hl 0 rfl) ?_
          refine r_get (own := RX10) (T := TX10) (n := 9) (ci := 10) (v := .ref (ad 60)) hx hb hts nX10 hown hK hP (by omega) h0 rfl 4 (by decide) k1 rfl dX10_worth_71 ?_
          refine lv_aload_n hx hb dX10_worth_74 rfl (lv_at hl 0 rfl) ?_
          refine r_get (own := RX10) (T := TX10) (n := 9) (ci := 10) (v := .ref (ad 85)) hx hb hts nX10 hown hK hP (by omega) h0 rfl 8 (by decide) k5 rfl dX10_worth_75 ?_
          obtain ⟨q10, hq10, hf⟩ := bd_e hf
          refine k_lR (va_runV (C := RX6) (As := [.ref (ad 85)]) (rest := []) ⟨hx, hb, hml, hown, hts⟩ (c_X6_tenthsOf (l := l) (sz := H.size) (p0 := 85) hN isFB_a h5 h15 h16 h17 h18 h21 h22 h23 h60 h65 hF_ hS_ hq10) (cwV 1 hts gX10_worth_X6_tenthsOf rfl rfl rfl (by decide +kernel) ⟨Nat.le_of_ble_eq_true rfl, Nat.le_of_ble_eq_true rfl⟩) (preV_of hK hP (by omega) h60 rfl) rfl rfl hl.1 rfl (lv_room (Nat.le_of_ble_eq_true rfl)) dX10_worth_78 ⟨Nat.le_of_ble_eq_true rfl, Nat.le_of_ble_eq_true rfl⟩) hA hP hS (fun H locs hP hS => ?_)
          refine lv_ldc2 (own := RX10) hx hb hown k6 dX10_worth_81 ?_
          refine lv_aload_n hx hb dX10_worth_84 rfl (lv_at hl 0 rfl) ?_
          refine r_get (own := RX10) (T := TX10) (n := 9) (ci := 10) (v := .ref (ad 60)) hx hb hts nX10 hown hK hP (by omega) h0 rfl 4 (by decide) k1 rfl dX10_worth_85 ?_
          refine r_getN (own := RX10) (T := TX6) (n := 13) (ci := 6) (v := .long q7.2.1) hx hb hts nX6 hown hK hP (by omega) h60 rfl 8 (by decide) k3 rfl dX10_worth_88 ?_
          refine lv_lmul hx hb dX10_worth_91 ?_
          refine lv_iload hx hb dX10_worth_92 (lv_at hl 5 rfl) ?_
          obtain ⟨q11, hq11, hf⟩ := bd_e hf
          refine k_lR (va_runS (As := [.long q10, .long ((10 : Int64) * q7.2.1), .int p4]) (rest := []) ⟨hx, hb, hml, hown, hts⟩ (c_X10_lowest (l := l) (sz := H.size) (p0 := q10) (p1 := ((10 : Int64) * q7.2.1)) (p2 := p4) hq11) (va_cwS 3 hts gX10_worth_X10_lowest rfl rfl rfl (by decide +kernel) ⟨Nat.le_of_ble_eq_true rfl, Nat.le_of_ble_eq_true rfl⟩) preS0 rfl rfl hl.1 rfl (lv_room (Nat.le_of_ble_eq_true rfl)) dX10_worth_94 ⟨Nat.le_of_ble_eq_true rfl, Nat.le_of_ble_eq_true rfl⟩) hA hP hS (fun H locs hP hS => ?_)
          obtain rfl := Option.some.inj hf
          rw [← hQ]
          exact e_lW hx hb hr rfl hP hS ⟨hag, h60, h65, hF_⟩ hlocks dX10_worth_97
        · have hf := it_e c8 hf
          refine lv_ldc2 (own := RX10) hx hb hown k7 dX10_worth_53 ?_
          obtain rfl := Option.some.inj hf
          rw [← hQ]
          exact e_lW hx hb hr rfl hP hS ⟨hag, h60, h65, hF_⟩ hlocks dX10_worth_56
      · have hf := it_e c6 hf
        refine lv_ldc2 (own := RX10) hx hb hown k0 dX10_worth_30 ?_
        obtain rfl := Option.some.inj hf
        rw [← hQ]
        exact e_lW hx hb hr rfl hP hS ⟨hag, h60, h65, hF_⟩ hlocks dX10_worth_33
  · have hf := it_e c2 hf
    refine lv_ldc2 (own := RX10) hx hb hown k8 dX10_worth_7 ?_
    obtain rfl := Option.some.inj hf
    rw [← hQ]
    exact e_lW hx hb hr rfl hP hS ⟨hag, h60, h65, hF_⟩ hlocks dX10_worth_10

def f_X10_likeliest (t_lik : Nat → Int32) (t_rain : Nat → Int32) (t_tell : Nat → Int32) (t_wy : Nat → Int32) (t_wn : Nat → Int32) (t_none : Int32) (w_src : Int32) (wa_g : Nat → Int32) (th_none : Int64) (th_all1 : Int64) (th_k1 : Int32) (th_size : Int32) (th_one : Nat → Int64) (sL : Nat → Nat → Int32) (sT : Nat → Nat → Int32) (sF : Nat → Int32) (sU : Nat → Int32) (fC : Nat → Int32) (fS : Nat → Int32) (fM : Nat → Int32) (fT : Nat → Int32) (fY : Nat → Int32) : Option (Int32 × Int64 × Int64 × Int32 × (Nat → Int64)) :=
  (f_X6_thinkOfOne t_lik t_rain t_tell t_wy t_wn t_none w_src wa_g th_none th_all1 th_k1 th_size th_one sL sT sF sU fC fS fM fT fY).bind fun q1 =>
  (f_X6_most q1.1 q1.2.2.2).bind fun q2 =>
  some (q2, q1.1, q1.2.1, q1.2.2.1, q1.2.2.2)
abbrev rmX10_likeliest : Room := { frames := 6, cells := 0, slots := 0, locals := 149 }
set_option maxHeartbeats 4000000 in
set_option maxRecDepth 100000 in
theorem c_X10_likeliest {l : Launch} {D : va_G} {g : Nat → ClassId} {N : Nat} {ad : Nat → Nat} {C : Nat → va_E} {sz : Nat} {t_there : Int32} {t_lift : Int32} {t_none : Int32} {t_lik : Nat → Int32} {t_rain : Nat → Int32} {t_tell : Nat → Int32} {t_wy : Nat → Int32} {t_wn : Nat → Int32} {w_src : Int32} {wa_g : Nat → Int32} {th_none : Int64} {th_all1 : Int64} {th_all2 : Int64} {th_k1 : Int32} {th_k2 : Int32} {th_size : Int32} {th_one : Nat → Int64} {fC : Nat → Int32} {fS : Nat → Int32} {fM : Nat → Int32} {fT : Nat → Int32} {fY : Nat → Int32} {sL : Nat → Nat → Int32} {sT : Nat → Nat → Int32} {sF : Nat → Int32} {sU : Nat → Int32}  {rr : Int32 × Int64 × Int64 × Int32 × (Nat → Int64)} (hN : 86 ≤ N) (hI : Inj N ad) (h0 : C 0 = .inr (10, [.ref (ad 1), .ref (ad 5), .ref (ad 19), .ref (ad 21), .ref (ad 60), .ref (ad 77), .ref (ad 81), .ref (ad 84), .ref (ad 85)])) (h5 : C 5 = .inr (7, [.ref (ad 6), .ref (ad 7), .ref (ad 8), .ref (ad 9), .ref (ad 10), .ref (ad 11), .ref (ad 12), .ref (ad 13), .ref (ad 14), .ref (ad 15), .ref (ad 16), .ref (ad 17), .ref (ad 18), .int t_there, .int t_lift, .int t_none])) (h11 : C 11 = aI g 12 t_lik) (h15 : C 15 = aI g 24 t_rain) (h16 : C 16 = aI g 4 t_tell) (h17 : C 17 = aI g 4 t_wy) (h18 : C 18 = aI g 4 t_wn) (h19 : C 19 = .inr (9, [.ref (ad 5), .ref (ad 20), .int w_src])) (h21 : C 21 = .inr (8, [.ref (ad 5), .ref (ad 19), .ref (ad 22), .ref (ad 23)])) (h22 : C 22 = aI g 12 wa_g) (h23 : C 23 = aS g 12 (fun i => if i < 12 then some (ad (24 + 3 * i)) else none)) (h60 : C 60 = .inr (6, [.ref (ad 5), .ref (ad 19), .ref (ad 21), .ref (ad 61), .ref (ad 62), .ref (ad 65), .ref (ad 66), .long th_none, .long th_all1, .long th_all2, .int th_k1, .int th_k2, .int th_size])) (h61 : C 61 = aF g 10 (fun i => if i < 10 then some (ad (67 + i)) else none)) (h65 : C 65 = aL g 12 th_one) (hF_ : PoolF C fC fS fM fT fY) (hS_ : PoolS g ad C sL sT sF sU) (hf : f_X10_likeliest t_lik t_rain t_tell t_wy t_wn t_none w_src wa_g th_none th_all1 th_k1 th_size th_one sL sT sF sU fC fS fM fT fY = some rr) : Met l yX10_likeliest wsX10_likeliest rmX10_likeliest (PcW D g N ad C sz [.ref (ad 0)]) (QiW D N ad sz tP rr.1 (fun C' => (∀ i : Nat, i ≠ 60 ∧ i ≠ 65 → C' i = C i) ∧ (C' 60 = .inr (6, [.ref (ad 5), .ref (ad 19), .ref (ad 21), .ref (ad 61), .ref (ad 62), .ref (ad 65), .ref (ad 66), .long rr.2.1, .long rr.2.2.1, .long th_all2, .int rr.2.2.2.1, .int th_k2, .int th_size])) ∧ (C' 65 = aL g 12 rr.2.2.2.2))) 0 0 (Aw N ad sz) := by
  refine Met.ofW (cc := cX10_likeliest) (maxL := 1) (ret := (some .int)) (by decide) rfl ?_
  intro p e s m args below meth c s₁ B hml hv
  obtain ⟨hav, hsz, hK, hP⟩ := hv
  subst hsz
  have hx := B.exec
  have hb := B.bytes
  have hr := B.returns
  have hts := atoms_spec (ws := wsX10_likeliest) B.pre
  have hown : s.vm.findClass RX10 = some m.cls := findClass_of_methodNamed B.named
  have hlocks := B.notSynchronized
  generalize hQ : MQ below (QiW D N ad s.heap.size tP rr.1 (fun C' => (∀ i : Nat, i ≠ 60 ∧ i ≠ 65 → C' i = C i) ∧ (C' 60 = .inr (6, [.ref (ad 5), .ref (ad 19), .ref (ad 21), .ref (ad 61), .ref (ad 62), .ref (ad 65), .ref (ad 66), .long rr.2.1, .long rr.2.2.1, .long th_all2, .int rr.2.2.2.1, .int th_k2, .int th_size])) ∧ (C' 65 = aL g 12 rr.2.2.2.2))) args s 0 0 (Aw N ad s.heap.size) = QQ
  have hS : va_S (Aw N ad s.heap.size) s.heap s.heap [] := va_S.rf
  have hA : ∀ q, s.heap.size ≤ q → (Aw N ad s.heap.size) q := fun q h => Or.inr h
  have hAd : ∀ j : Nat, j < N → (Aw N ad s.heap.size) (ad j) := fun j h => Or.inl ⟨j, h, rfl⟩
  obtain ⟨C0, hC0⟩ : ∃ C0 : Nat → va_E, C0 = C := ⟨_, rfl⟩
  have hag : ∀ i : Nat, i ≠ 60 ∧ i ≠ 65 → C i = C0 i := fun i _ => by rw [hC0]
  rw [← hC0] at hQ
  have k0 := hts (.fieldLink RX10 46 "UpDrain" "thoughts" "LUpDrain$Thoughts;") (List.mem_of_getElem? (i := 1) rfl)
  have nX10 : ∀ w ∈ u_ws RX10 TX10 9, w ∈ wsX10_likeliest := fun _ h => List.mem_cons_of_mem _ (List.mem_append_left _ (List.mem_append_left _ (List.mem_append_left _ (List.mem_append_left _ (List.mem_append_left _ (List.mem_append_left _ (List.mem_append_right _ h)))))))
  have hE := lg_entry_eq m [.ref (ad 0)] 1
  rw [← hav] at hE
  rw [hE]
  have hl := lv_entry [.ref (ad 0)] (n := 1) (Nat.le_of_ble_eq_true rfl)
  generalize (lg_sl [.ref (ad 0)] ++ List.replicate (1 - (lg_sl [.ref (ad 0)]).length) Slot.unset).toArray = ls at hl ⊢
  have hl : lv_has ls 1 [(0, .ref (ad 0))] := hl
  clear hE
  unfold f_X10_likeliest at hf
  suffices hgo : ∀ (H : Heap) (locs : List Loc), va_P D vwCl (wd N ad C) H → va_S (Aw N ad s.heap.size) s.heap H locs → W p l e (headSpec wsX10_likeliest rmX10_likeliest).room s m args below meth c H locs 0 0 QQ (F0 m 0 ls []) from hgo s.heap [] hP hS
  clear hS hP
  intro H locs hP hS
  refine lv_aload_n hx hb dX10_likeliest_0 rfl (lv_at hl 0 rfl) ?_
  refine r_get (own := RX10) (T := TX10) (n := 9) (ci := 10) (v := .ref (ad 60)) hx hb hts nX10 hown hK hP (by omega) h0 rfl 4 (by decide) k0 rfl dX10_likeliest_1 ?_
  obtain ⟨q1, hq1, hf⟩ := bd_e hf
  refine k_vW (va_runV (C := RX6) (As := []) (rest := []) ⟨hx, hb, hml, hown, hts⟩ (c_X6_thinkOfOne (l := l) (sz := H.size)  hN hI h5 h11 h15 h16 h17 h18 h19 h21 h22 h23 h60 h61 h65 hF_ hS_ hq1) (cwV 0 hts gX10_likeliest_X6_thinkOfOne rfl rfl rfl (by decide +kernel) ⟨Nat.le_of_ble_eq_true rfl, Nat.le_of_ble_eq_true rfl⟩) (preV_of hK hP (by omega) h60 rfl) rfl rfl hl.1 rfl (lv_room (Nat.le_of_ble_eq_true rfl)) dX10_likeliest_4 ⟨Nat.le_of_ble_eq_true rfl, Nat.le_of_ble_eq_true rfl⟩) hA hAd hS (fun C H locs hP hS hpo => ?_)
  obtain ⟨he, h60, h65⟩ := hpo
  have hag : ∀ i : Nat, i ≠ 60 ∧ i ≠ 65 → C i = C0 i := fun i h => (he i (by omega)).trans (hag i h)
  have h0 := (he 0 (by decide)).trans h0
  have h5 := (he 5 (by decide)).trans h5
  have h11 := (he 11 (by decide)).trans h11
  have h15 := (he 15 (by decide)).trans h15
  have h16 := (he 16 (by decide)).trans h16
  have h17 := (he 17 (by decide)).trans h17
  have h18 := (he 18 (by decide)).trans h18
  have h19 := (he 19 (by decide)).trans h19
  have h21 := (he 21 (by decide)).trans h21
  have h22 := (he 22 (by decide)).trans h22
  have h23 := (he 23 (by decide)).trans h23
  have h61 := (he 61 (by decide)).trans h61
  have hF_ := hF_.ne (fun i h1 => he i (by omega))
  have hS_ := hS_.ne (fun i h1 h2 => he i (by omega))
  refine lv_aload_n hx hb dX10_likeliest_7 rfl (lv_at hl 0 rfl) ?_
  refine r_get (own := RX10) (T := TX10) (n := 9) (ci := 10) (v := .ref (ad 60)) hx hb hts nX10 hown hK hP (by omega) h0 rfl 4 (by decide) k0 rfl dX10_likeliest_8 ?_
  obtain ⟨q2, hq2, hf⟩ := bd_e hf
  refine k_iR (va_runV (C := RX6) (As := []) (rest := []) ⟨hx, hb, hml, hown, hts⟩ (c_X6_most (l := l) (sz := H.size)  hN h60 h65 hq2) (cwV 0 hts gX10_likeliest_X6_most rfl rfl rfl (by decide +kernel) ⟨Nat.le_of_ble_eq_true rfl, Nat.le_of_ble_eq_true rfl⟩) (preV_of hK hP (by omega) h60 rfl) rfl rfl hl.1 rfl (lv_room (Nat.le_of_ble_eq_true rfl)) dX10_likeliest_11 ⟨Nat.le_of_ble_eq_true rfl, Nat.le_of_ble_eq_true rfl⟩) hA hP hS (fun H locs hP hS hbz_q2 => ?_)
  obtain rfl := Option.some.inj hf
  rw [← hQ]
  exact e_iW hx hb hr rfl (tP_i _) hP hS ⟨hag, h60, h65⟩ hlocks dX10_likeliest_14

def f_X10_lacks (p0 : Int32) (t_down : Nat → Int32) (t_min : Nat → Int32) (t_gone : Nat → Int32) (t_rain : Nat → Int32) (t_tell : Nat → Int32) (t_there : Int32) (wa_g : Nat → Int32) (th_size : Int32) (sL : Nat → Nat → Int32) (sT : Nat → Nat → Int32) (sF : Nat → Int32) (sU : Nat → Int32) (fC : Nat → Int32) (fS : Nat → Int32) (fM : Nat → Int32) (fT : Nat → Int32) (fY : Nat → Int32) : Option (Int32 × (Nat → Nat → Int32) × (Nat → Nat → Int32) × (Nat → Int32) × (Nat → Int32)) :=
  if p0 < 0 then
    some ((-3), sL, sT, sF, sU)
  else
    if p0 ≤ 9999 then
      (f_X6_nodesThatFit p0 t_down t_min t_gone t_rain t_tell t_there wa_g th_size sL sT sF sU fC fS fM fT fY).bind fun q3 =>
      some (q3.1, q3.2.1, q3.2.2.1, q3.2.2.2.1, q3.2.2.2.2)
    else
      some ((-3), sL, sT, sF, sU)
abbrev rmX10_lacks : Room := { frames := 6, cells := 0, slots := 0, locals := 144 }
set_option maxHeartbeats 4000000 in
set_option maxRecDepth 100000 in
theorem c_X10_lacks {l : Launch} {D : va_G} {g : Nat → ClassId} {N : Nat} {ad : Nat → Nat} {C : Nat → va_E} {sz : Nat} {t_there : Int32} {t_lift : Int32} {t_none : Int32} {t_down : Nat → Int32} {t_min : Nat → Int32} {t_gone : Nat → Int32} {t_rain : Nat → Int32} {t_tell : Nat → Int32} {wa_g : Nat → Int32} {th_none : Int64} {th_all1 : Int64} {th_all2 : Int64} {th_k1 : Int32} {th_k2 : Int32} {th_size : Int32} {fC : Nat → Int32} {fS : Nat → Int32} {fM : Nat → Int32} {fT : Nat → Int32} {fY : Nat → Int32} {sL : Nat → Nat → Int32} {sT : Nat → Nat → Int32} {sF : Nat → Int32} {sU : Nat → Int32} {p0 : Int32} {rr : Int32 × (Nat → Nat → Int32) × (Nat → Nat → Int32) × (Nat → Int32) × (Nat → Int32)} (hN : 86 ≤ N) (hI : Inj N ad) (h0 : C 0 = .inr (10, [.ref (ad 1), .ref (ad 5), .ref (ad 19), .ref (ad 21), .ref (ad 60), .ref (ad 77), .ref (ad 81), .ref (ad 84), .ref (ad 85)])) (h5 : C 5 = .inr (7, [.ref (ad 6), .ref (ad 7), .ref (ad 8), .ref (ad 9), .ref (ad 10), .ref (ad 11), .ref (ad 12), .ref (ad 13), .ref (ad 14), .ref (ad 15), .ref (ad 16), .ref (ad 17), .ref (ad 18), .int t_there, .int t_lift, .int t_none])) (h6 : C 6 = aI g 12 t_down) (h7 : C 7 = aI g 12 t_min) (h9 : C 9 = aI g 12 t_gone) (h15 : C 15 = aI g 24 t_rain) (h16 : C 16 = aI g 4 t_tell) (h21 : C 21 = .inr (8, [.ref (ad 5), .ref (ad 19), .ref (ad 22), .ref (ad 23)])) (h22 : C 22 = aI g 12 wa_g) (h60 : C 60 = .inr (6, [.ref (ad 5), .ref (ad 19), .ref (ad 21), .ref (ad 61), .ref (ad 62), .ref (ad 65), .ref (ad 66), .long th_none, .long th_all1, .long th_all2, .int th_k1, .int th_k2, .int th_size])) (h61 : C 61 = aF g 10 (fun i => if i < 10 then some (ad (67 + i)) else none)) (hF_ : PoolF C fC fS fM fT fY) (hS_ : PoolS g ad C sL sT sF sU) (hf : f_X10_lacks p0 t_down t_min t_gone t_rain t_tell t_there wa_g th_size sL sT sF sU fC fS fM fT fY = some rr) : Met l yX10_lacks wsX10_lacks rmX10_lacks (PcW D g N ad C sz [.ref (ad 0), .int p0]) (QiW D N ad sz tP rr.1 (fun C' => (∀ i : Nat, (i < 24 ∨ 64 < i ∨ i = 60 ∨ i = 61) → C' i = C i) ∧ (PoolS g ad C' rr.2.1 rr.2.2.1 rr.2.2.2.1 rr.2.2.2.2))) 0 0 (Aw N ad sz) := by
  refine Met.ofW (cc := cX10_lacks) (maxL := 2) (ret := (some .int)) (by decide) rfl ?_
  intro p e s m args below meth c s₁ B hml hv
  obtain ⟨hav, hsz, hK, hP⟩ := hv
  subst hsz
  have hx := B.exec
  have hb := B.bytes
  have hr := B.returns
  have hts := atoms_spec (ws := wsX10_lacks) B.pre
  have hown : s.vm.findClass RX10 = some m.cls := findClass_of_methodNamed B.named
  have hlocks := B.notSynchronized
  generalize hQ : MQ below (QiW D N ad s.heap.size tP rr.1 (fun C' => (∀ i : Nat, (i < 24 ∨ 64 < i ∨ i = 60 ∨ i = 61) → C' i = C i) ∧ (PoolS g ad C' rr.2.1 rr.2.2.1 rr.2.2.2.1 rr.2.2.2.2))) args s 0 0 (Aw N ad s.heap.size) = QQ
  have hS : va_S (Aw N ad s.heap.size) s.heap s.heap [] := va_S.rf
  have hA : ∀ q, s.heap.size ≤ q → (Aw N ad s.heap.size) q := fun q h => Or.inr h
  have hAd : ∀ j : Nat, j < N → (Aw N ad s.heap.size) (ad j) := fun j h => Or.inl ⟨j, h, rfl⟩
  obtain ⟨C0, hC0⟩ : ∃ C0 : Nat → va_E, C0 = C := ⟨_, rfl⟩
  have hag : ∀ i : Nat, (i < 24 ∨ 64 < i ∨ i = 60 ∨ i = 61) → C i = C0 i := fun i _ => by rw [hC0]
  rw [← hC0] at hQ
  have k0 := hts (.fieldLink RX10 46 "UpDrain" "thoughts" "LUpDrain$Thoughts;") (List.mem_of_getElem? (i := 1) rfl)
  have nX10 : ∀ w ∈ u_ws RX10 TX10 9, w ∈ wsX10_lacks := fun _ h => List.mem_cons_of_mem _ (List.mem_append_left _ (List.mem_append_left _ (List.mem_append_left _ (List.mem_append_left _ (List.mem_append_left _ (List.mem_append_right _ h))))))
  have hE := lg_entry_eq m [.ref (ad 0), .int p0] 2
  rw [← hav] at hE
  rw [hE]
  have hl := lv_entry [.ref (ad 0), .int p0] (n := 2) (Nat.le_of_ble_eq_true rfl)
  generalize (lg_sl [.ref (ad 0), .int p0] ++ List.replicate (2 - (lg_sl [.ref (ad 0), .int p0]).length) Slot.unset).toArray = ls at hl ⊢
  have hl : lv_has ls 2 [(0, .ref (ad 0)), (1, .int p0)] := hl
  clear hE
  unfold f_X10_lacks at hf
  suffices hgo : ∀ (H : Heap) (locs : List Loc), va_P D vwCl (wd N ad C) H → va_S (Aw N ad s.heap.size) s.heap H locs → W p l e (headSpec wsX10_lacks rmX10_lacks).room s m args below meth c H locs 0 0 QQ (F0 m 0 ls []) from hgo s.heap [] hP hS
  clear hS hP
  intro H locs hP hS
  refine lv_iload_n hx hb dX10_lacks_0 rfl (lv_at hl 1 rfl) ?_
  refine lv_if_lt (tgt := 11) hx hb dX10_lacks_1 (by decide) (fun c1 => ?_) (fun c1 => ?_)
  · have hf := it_e c1 hf
    refine lv_bipush (v := (-3)) hx hb dX10_lacks_11 (by decide) ?_
    obtain rfl := Option.some.inj hf
    rw [← hQ]
    exact e_iW hx hb hr rfl (tP_i _) hP hS ⟨hag, hS_⟩ hlocks dX10_lacks_13
  · have hf := ie_e c1 hf
    refine lv_iload_n hx hb dX10_lacks_4 rfl (lv_at hl 1 rfl) ?_
    refine lv_sipush (v := 9999) hx hb dX10_lacks_5 (by decide) ?_
    refine lv_icmp_le (tgt := 14) hx hb dX10_lacks_8 (by decide) (fun c2 => ?_) (fun c2 => ?_)
    · have hf := it_e c2 hf
      refine lv_aload_n hx hb dX10_lacks_14 rfl (lv_at hl 0 rfl) ?_
      refine r_get (own := RX10) (T := TX10) (n := 9) (ci := 10) (v := .ref (ad 60)) hx hb hts nX10 hown hK hP (by omega) h0 rfl 4 (by decide) k0 rfl dX10_lacks_15 ?_
      refine lv_iload_n hx hb dX10_lacks_18 rfl (lv_at hl 1 rfl) ?_
      obtain ⟨q3, hq3, hf⟩ := bd_e hf
      refine k_iW (va_runV (C := RX6) (As := [.int p0]) (rest := []) ⟨hx, hb, hml, hown, hts⟩ (c_X6_nodesThatFit (l := l) (sz := H.size) (p0 := p0) hN hI h5 h6 h7 h9 h15 h16 h21 h22 h60 h61 hF_ hS_ hq3) (cwV 1 hts gX10_lacks_X6_nodesThatFit rfl rfl rfl (by decide +kernel) ⟨Nat.le_of_ble_eq_true rfl, Nat.le_of_ble_eq_true rfl⟩) (preV_of hK hP (by omega) h60 rfl) rfl rfl hl.1 rfl (lv_room (Nat.le_of_ble_eq_true rfl)) dX10_lacks_19 ⟨Nat.le_of_ble_eq_true rfl, Nat.le_of_ble_eq_true rfl⟩) hA hAd hS (fun C H locs hP hS hpo hbz_q3 => ?_)
      obtain ⟨he, hS_⟩ := hpo
      have hag : ∀ i : Nat, (i < 24 ∨ 64 < i ∨ i = 60 ∨ i = 61) → C i = C0 i := fun i h => (he i (by omega)).trans (hag i h)
      have h0 := (he 0 (by decide)).trans h0
      have h5 := (he 5 (by decide)).trans h5
      have h6 := (he 6 (by decide)).trans h6
      have h7 := (he 7 (by decide)).trans h7
      have h9 := (he 9 (by decide)).trans h9
      have h15 := (he 15 (by decide)).trans h15
      have h16 := (he 16 (by decide)).trans h16
      have h21 := (he 21 (by decide)).trans h21
      have h22 := (he 22 (by decide)).trans h22
      have h60 := (he 60 (by decide)).trans h60
      have h61 := (he 61 (by decide)).trans h61
      have hF_ := hF_.ne (fun i h1 => he i (by omega))
      obtain rfl := Option.some.inj hf
      rw [← hQ]
      exact e_iW hx hb hr rfl (tP_i _) hP hS ⟨hag, hS_⟩ hlocks dX10_lacks_22
    · have hf := ie_e c2 hf
      refine lv_bipush (v := (-3)) hx hb dX10_lacks_11 (by decide) ?_
      obtain rfl := Option.some.inj hf
      rw [← hQ]
      exact e_iW hx hb hr rfl (tP_i _) hP hS ⟨hag, hS_⟩ hlocks dX10_lacks_13

def f_X10_fewest (p0 : Int32) (t_down : Nat → Int32) (t_pac : Nat → Int32) (t_lik : Nat → Int32) (t_lift : Int32) (w_src : Int32) (w_over : Nat → Int32) (h_solved : Int32) (h_few : Nat → Int32) (h_sum : Nat → Int32) (h_min : Nat → Int32) (hn1 : Nat) (hn2 : Nat) (hn3 : Nat) : Option (Int32 × Int32 × (Nat → Int32) × (Nat → Int32) × (Nat → Int32) × Nat × Nat × Nat) :=
  (f_X10_isPart p0).bind fun q1 =>
  if q1 = 0 then
    some ((-3), h_solved, h_few, h_sum, h_min, hn1, hn2, hn3)
  else
    (f_X2_solve t_down t_pac t_lik t_lift w_src w_over h_solved h_few h_sum h_min hn1 hn2 hn3).bind fun q3 =>
    if p0 = 0 then
      ri q3.2.1 q3.2.2.2.2.1 (w_src) fun x6 =>
      some (x6, q3.1, q3.2.1, q3.2.2.1, q3.2.2.2.1, q3.2.2.2.2.1, q3.2.2.2.2.2.1, q3.2.2.2.2.2.2)
    else
      (f_X2_firstOfFewest w_src w_over q3.2.1 q3.2.2.2.2.1).bind fun q5 =>
      some (q5, q3.1, q3.2.1, q3.2.2.1, q3.2.2.2.1, q3.2.2.2.2.1, q3.2.2.2.2.2.1, q3.2.2.2.2.2.2)
abbrev rmX10_fewest : Room := { frames := 5, cells := 3, slots := 57344, locals := 116 }
set_option maxHeartbeats 4000000 in
set_option maxRecDepth 100000 in
theorem c_X10_fewest {l : Launch} {D : va_G} {g : Nat → ClassId} {N : Nat} {ad : Nat → Nat} {C : Nat → va_E} {sz : Nat} {t_there : Int32} {t_lift : Int32} {t_none : Int32} {t_down : Nat → Int32} {t_pac : Nat → Int32} {t_lik : Nat → Int32} {w_src : Int32} {w_over : Nat → Int32} {h_solved : Int32} {hn1 : Nat} {h_few : Nat → Int32} {hn2 : Nat} {h_sum : Nat → Int32} {hn3 : Nat} {h_min : Nat → Int32} {p0 : Int32} {rr : Int32 × Int32 × (Nat → Int32) × (Nat → Int32) × (Nat → Int32) × Nat × Nat × Nat} (hN : 86 ≤ N) (hI : Inj N ad) (h0 : C 0 = .inr (10, [.ref (ad 1), .ref (ad 5), .ref (ad 19), .ref (ad 21), .ref (ad 60), .ref (ad 77), .ref (ad 81), .ref (ad 84), .ref (ad 85)])) (h5 : C 5 = .inr (7, [.ref (ad 6), .ref (ad 7), .ref (ad 8), .ref (ad 9), .ref (ad 10), .ref (ad 11), .ref (ad 12), .ref (ad 13), .ref (ad 14), .ref (ad 15), .ref (ad 16), .ref (ad 17), .ref (ad 18), .int t_there, .int t_lift, .int t_none])) (h6 : C 6 = aI g 12 t_down) (h8 : C 8 = aI g 12 t_pac) (h11 : C 11 = aI g 12 t_lik) (h19 : C 19 = .inr (9, [.ref (ad 5), .ref (ad 20), .int w_src])) (h20 : C 20 = aI g 12 w_over) (h77 : C 77 = .inr (2, [.ref (ad 5), .ref (ad 19), .ref (ad 78), .ref (ad 79), .ref (ad 80), .int h_solved])) (h78 : C 78 = aI g hn1 h_few) (h79 : C 79 = aI g hn2 h_sum) (h80 : C 80 = aI g hn3 h_min) (hf : f_X10_fewest p0 t_down t_pac t_lik t_lift w_src w_over h_solved h_few h_sum h_min hn1 hn2 hn3 = some rr) : Met l yX10_fewest wsX10_fewest rmX10_fewest (PcW D g N ad C sz [.ref (ad 0), .int p0]) (QiA D N ad sz tP rr.1 (fun ad' C' => (∀ i : Nat, i ≠ 78 → i ≠ 79 → i ≠ 80 → ad' i = ad i) ∧ (∀ i : Nat, i ≠ 77 ∧ i ≠ 78 ∧ i ≠ 79 ∧ i ≠ 80 → C' i = C i) ∧ (C' 77 = .inr (2, [.ref (ad' 5), .ref (ad' 19), .ref (ad' 78), .ref (ad' 79), .ref (ad' 80), .int rr.2.1])) ∧ (C' 78 = aI g rr.2.2.2.2.2.1 rr.2.2.1) ∧ (C' 79 = aI g rr.2.2.2.2.2.2.1 rr.2.2.2.1) ∧ (C' 80 = aI g rr.2.2.2.2.2.2.2 rr.2.2.2.2.1))) 3 57344 (Aw N ad sz) := by
  refine Met.ofW (cc := cX10_fewest) (maxL := 2) (ret := (some .int)) (by decide) rfl ?_
  intro p e s m args below meth c s₁ B hml hv
  obtain ⟨hav, hsz, hK, hP⟩ := hv
  subst hsz
  have hx := B.exec
  have hb := B.bytes
  have hr := B.returns
  have hts := atoms_spec (ws := wsX10_fewest) B.pre
  have hown : s.vm.findClass RX10 = some m.cls := findClass_of_methodNamed B.named
  have hlocks := B.notSynchronized
  generalize hQ : MQ below (QiA D N ad s.heap.size tP rr.1 (fun ad' C' => (∀ i : Nat, i ≠ 78 → i ≠ 79 → i ≠ 80 → ad' i = ad i) ∧ (∀ i : Nat, i ≠ 77 ∧ i ≠ 78 ∧ i ≠ 79 ∧ i ≠ 80 → C' i = C i) ∧ (C' 77 = .inr (2, [.ref (ad' 5), .ref (ad' 19), .ref (ad' 78), .ref (ad' 79), .ref (ad' 80), .int rr.2.1])) ∧ (C' 78 = aI g rr.2.2.2.2.2.1 rr.2.2.1) ∧ (C' 79 = aI g rr.2.2.2.2.2.2.1 rr.2.2.2.1) ∧ (C' 80 = aI g rr.2.2.2.2.2.2.2 rr.2.2.2.2.1))) args s 3 57344 (Aw N ad s.heap.size) = QQ
  obtain ⟨ad0, had0⟩ : ∃ z : Nat → Nat, z = ad := ⟨_, rfl⟩
  rw [← had0] at hQ
  have hadT : ∀ i : Nat, i ≠ 78 → i ≠ 79 → i ≠ 80 → ad i = ad0 i := fun i _ _ _ => by rw [had0]
  have hS : va_S (Aw N ad0 s.heap.size) s.heap s.heap [] := va_S.rf
  have hA : ∀ q, s.heap.size ≤ q → (Aw N ad0 s.heap.size) q := fun q h => Or.inr h
  have hAd : ∀ j : Nat, j < N → (Aw N ad0 s.heap.size) (ad j) := fun j h => Or.inl ⟨j, h, by rw [had0]⟩
  obtain ⟨C0, hC0⟩ : ∃ C0 : Nat → va_E, C0 = C := ⟨_, rfl⟩
  have hag : ∀ i : Nat, i ≠ 77 ∧ i ≠ 78 ∧ i ≠ 79 ∧ i ≠ 80 → C i = C0 i := fun i _ => by rw [hC0]
  rw [← hC0] at hQ
  have k0 := hts (.fieldLink RX10 53 "UpDrain" "hunt" "LUpDrain$Hunt;") (List.mem_of_getElem? (i := 1) rfl)
  have nX10 : ∀ w ∈ u_ws RX10 TX10 9, w ∈ wsX10_fewest := fun _ h => List.mem_cons_of_mem _ (List.mem_append_left _ (List.mem_append_left _ (List.mem_append_left _ (List.mem_append_right _ h))))
  have k2 := nf_70 (A := args) hK
  have nX2 : ∀ w ∈ u_ws RX2 TX2 6, w ∈ wsX10_fewest := fun _ h => List.mem_cons_of_mem _ (List.mem_append_left _ (List.mem_append_left _ (List.mem_append_right _ h)))
  have k4 := hts (.fieldLink RX10 28 "UpDrain" "ways" "LUpDrain$Ways;") (List.mem_of_getElem? (i := 2) rfl)
  have k5 := nf_55 (A := args) hK
  have nX9 : ∀ w ∈ u_ws RX9 TX9 3, w ∈ wsX10_fewest := fun _ h => List.mem_cons_of_mem _ (List.mem_append_left _ (List.mem_append_right _ h))
  have hE := lg_entry_eq m [.ref (ad 0), .int p0] 2
  rw [← hav] at hE
  rw [hE]
  have hl := lv_entry [.ref (ad 0), .int p0] (n := 2) (Nat.le_of_ble_eq_true rfl)
  generalize (lg_sl [.ref (ad 0), .int p0] ++ List.replicate (2 - (lg_sl [.ref (ad 0), .int p0]).length) Slot.unset).toArray = ls at hl ⊢
  have hl : lv_has ls 2 [(0, .ref (ad 0)), (1, .int p0)] := hl
  clear hE
  unfold f_X10_fewest at hf
  suffices hgo : ∀ (H : Heap) (locs : List Loc), va_P D vwCl (wd N ad C) H → va_S (Aw N ad0 s.heap.size) s.heap H locs → W p l e (headSpec wsX10_fewest rmX10_fewest).room s m args below meth c H locs 0 0 QQ (F0 m 0 ls []) from hgo s.heap [] hP hS
  clear hS hP
  intro H locs hP hS
  refine lv_iload_n hx hb dX10_fewest_0 rfl (lv_at hl 1 rfl) ?_
  obtain ⟨q1, hq1, hf⟩ := bd_e hf
  refine k_iR (va_runS (As := [.int p0]) (rest := []) ⟨hx, hb, hml, hown, hts⟩ (c_X10_isPart (l := l) (sz := H.size) (p0 := p0) hq1) (va_cwS 1 hts gX10_fewest_X10_isPart rfl rfl rfl (by decide +kernel) ⟨Nat.le_of_ble_eq_true rfl, Nat.le_of_ble_eq_true rfl⟩) preS0 rfl rfl hl.1 rfl (lv_room (Nat.le_of_ble_eq_true rfl)) dX10_fewest_1 ⟨Nat.le_of_ble_eq_true rfl, Nat.le_of_ble_eq_true rfl⟩) hA hP hS (fun H locs hP hS hbz_q1 => ?_)
  refine lv_if_ne (tgt := 10) hx hb dX10_fewest_4 (by decide) (fun c2 => ?_) (fun c2 => ?_)
  · have hf := ie_e c2 hf
    refine lv_aload_n hx hb dX10_fewest_10 rfl (lv_at hl 0 rfl) ?_
    refine r_get (own := RX10) (T := TX10) (n := 9) (ci := 10) (v := .ref (ad 77)) hx hb hts nX10 hown hK hP (by omega) h0 rfl 5 (by decide) k0 rfl dX10_fewest_11 ?_
    obtain ⟨q3, hq3, hf⟩ := bd_e hf
    refine k_vA (va_runV (C := RX2) (As := []) (rest := []) ⟨hx, hb, hml, hown, hts⟩ (c_X2_solve (l := l) (sz := H.size)  hN hI h5 h6 h8 h11 h19 h20 h77 h78 h79 h80 hq3) (cwV 0 hts gX10_fewest_X2_solve rfl rfl rfl (by decide +kernel) ⟨Nat.le_of_ble_eq_true rfl, Nat.le_of_ble_eq_true rfl⟩) (preV_of hK hP (by omega) h77 rfl) rfl rfl hl.1 rfl (lv_room (Nat.le_of_ble_eq_true rfl)) dX10_fewest_14 ⟨Nat.le_of_ble_eq_true rfl, Nat.le_of_ble_eq_true rfl⟩) hA hAd hS (fun ad C H locs hI hAd hP hS hpo => ?_)
    refine W.widen (k := 3) (n := 57344) (Nat.le_refl _) (Nat.le_refl _) ?_
    obtain ⟨had, he, h77, h78, h79, h80⟩ := hpo
    have hadT : ∀ i : Nat, i ≠ 78 → i ≠ 79 → i ≠ 80 → ad i = ad0 i := fun i h1 h2 h3 => (had i h1 h2 h3).trans (hadT i h1 h2 h3)
    have hag : ∀ i : Nat, i ≠ 77 ∧ i ≠ 78 ∧ i ≠ 79 ∧ i ≠ 80 → C i = C0 i := fun i h => (he i (by omega)).trans (hag i h)
    have h0 : C 0 = .inr (10, [.ref (ad 1), .ref (ad 5), .ref (ad 19), .ref (ad 21), .ref (ad 60), .ref (ad 77), .ref (ad 81), .ref (ad 84), .ref (ad 85)]) := by rw [had 1 (by decide) (by decide) (by decide), had 5 (by decide) (by decide) (by decide), had 19 (by decide) (by decide) (by decide), had 21 (by decide) (by decide) (by decide), had 60 (by decide) (by decide) (by decide), had 77 (by decide) (by decide) (by decide), had 81 (by decide) (by decide) (by decide), had 84 (by decide) (by decide) (by decide), had 85 (by decide) (by decide) (by decide)]; exact (he 0 (by decide)).trans h0
    have h5 : C 5 = .inr (7, [.ref (ad 6), .ref (ad 7), .ref (ad 8), .ref (ad 9), .ref (ad 10), .ref (ad 11), .ref (ad 12), .ref (ad 13), .ref (ad 14), .ref (ad 15), .ref (ad 16), .ref (ad 17), .ref (ad 18), .int t_there, .int t_lift, .int t_none]) := by rw [had 6 (by decide) (by decide) (by decide), had 7 (by decide) (by decide) (by decide), had 8 (by decide) (by decide) (by decide), had 9 (by decide) (by decide) (by decide), had 10 (by decide) (by decide) (by decide), had 11 (by decide) (by decide) (by decide), had 12 (by decide) (by decide) (by decide), had 13 (by decide) (by decide) (by decide), had 14 (by decide) (by decide) (by decide), had 15 (by decide) (by decide) (by decide), had 16 (by decide) (by decide) (by decide), had 17 (by decide) (by decide) (by decide), had 18 (by decide) (by decide) (by decide)]; exact (he 5 (by decide)).trans h5
    have h6 := (he 6 (by decide)).trans h6
    have h8 := (he 8 (by decide)).trans h8
    have h11 := (he 11 (by decide)).trans h11
    have h19 : C 19 = .inr (9, [.ref (ad 5), .ref (ad 20), .int w_src]) := by rw [had 5 (by decide) (by decide) (by decide), had 20 (by decide) (by decide) (by decide)]; exact (he 19 (by decide)).trans h19
    have h20 := (he 20 (by decide)).trans h20
    have hl : lv_has ls 2 [(0, .ref (ad 0)), (1, .int p0)] := by rw [had 0 (by decide) (by decide) (by decide)]; exact hl
    refine lv_iload_n hx hb dX10_fewest_17 rfl (lv_at hl 1 rfl) ?_
    refine lv_if_ne (tgt := 39) hx hb dX10_fewest_18 (by decide) (fun c4 => ?_) (fun c4 => ?_)
    · have hf := ie_e c4 hf
      refine lv_aload_n hx hb dX10_fewest_39 rfl (lv_at hl 0 rfl) ?_
      refine r_get (own := RX10) (T := TX10) (n := 9) (ci := 10) (v := .ref (ad 77)) hx hb hts nX10 hown hK hP (by omega) h0 rfl 5 (by decide) k0 rfl dX10_fewest_40 ?_
      obtain ⟨q5, hq5, hf⟩ := bd_e hf
      refine k_iR (va_runV (C := RX2) (As := []) (rest := []) ⟨hx, hb, hml, hown, hts⟩ (c_X2_firstOfFewest (l := l) (sz := H.size)  hN h19 h20 h77 h78 hq5) (cwV 0 hts gX10_fewest_X2_firstOfFewest rfl rfl rfl (by decide +kernel) ⟨Nat.le_of_ble_eq_true rfl, Nat.le_of_ble_eq_true rfl⟩) (preV_of hK hP (by omega) h77 rfl) rfl rfl hl.1 rfl (lv_room (Nat.le_of_ble_eq_true rfl)) dX10_fewest_43 ⟨Nat.le_of_ble_eq_true rfl, Nat.le_of_ble_eq_true rfl⟩) hA hP hS (fun H locs hP hS hbz_q5 => ?_)
      obtain rfl := Option.some.inj hf
      rw [← hQ]
      exact e_iA hx hb hr rfl (tP_i _) hI hAd hP hS ⟨hadT, hag, h77, h78, h79, h80⟩ hlocks dX10_fewest_46
    · have hf := it_e c4 hf
      refine lv_aload_n hx hb dX10_fewest_21 rfl (lv_at hl 0 rfl) ?_
      refine r_get (own := RX10) (T := TX10) (n := 9) (ci := 10) (v := .ref (ad 77)) hx hb hts nX10 hown hK hP (by omega) h0 rfl 5 (by decide) k0 rfl dX10_fewest_22 ?_
      refine r_getN (own := RX10) (T := TX2) (n := 6) (ci := 2) (v := .ref (ad 78)) hx hb hts nX2 hown hK hP (by omega) h77 rfl 2 (by decide) k2 rfl dX10_fewest_25 ?_
      refine lv_aload_n hx hb dX10_fewest_28 rfl (lv_at hl 0 rfl) ?_
      refine r_get (own := RX10) (T := TX10) (n := 9) (ci := 10) (v := .ref (ad 19)) hx hb hts nX10 hown hK hP (by omega) h0 rfl 2 (by decide) k4 rfl dX10_fewest_29 ?_
      refine r_getN (own := RX10) (T := TX9) (n := 3) (ci := 9) (v := .int w_src) hx hb hts nX9 hown hK hP (by omega) h19 rfl 2 (by decide) k5 rfl dX10_fewest_32 ?_
      obtain ⟨i7, x6, ex6, hf⟩ := ri_e hf
      refine r_iald hx hb hK hP (by omega) h78 i7 dX10_fewest_35 ex6 ?_
      refine lv_goto (tgt := 46) hx hb dX10_fewest_36 (by decide) ?_
      obtain rfl := Option.some.inj hf
      rw [← hQ]
      exact e_iA hx hb hr rfl (tP_i _) hI hAd hP hS ⟨hadT, hag, h77, h78, h79, h80⟩ hlocks dX10_fewest_46
  · have hf := it_e c2 hf
    refine lv_bipush (v := (-3)) hx hb dX10_fewest_7 (by decide) ?_
    obtain rfl := Option.some.inj hf
    rw [← hQ]
    refine W.widen (k := 3) (n := 57344) (by omega) (by omega) ?_
    exact e_iA hx hb hr rfl (tP_i _) hI hAd hP hS ⟨hadT, hag, h77, h78, h79, h80⟩ hlocks dX10_fewest_9

def f_X10_mean (p0 : Int32) (t_down : Nat → Int32) (t_pac : Nat → Int32) (t_lik : Nat → Int32) (t_lift : Int32) (w_src : Int32) (w_over : Nat → Int32) (h_solved : Int32) (h_few : Nat → Int32) (h_sum : Nat → Int32) (h_min : Nat → Int32) (hn1 : Nat) (hn2 : Nat) (hn3 : Nat) : Option (Int32 × Int32 × (Nat → Int32) × (Nat → Int32) × (Nat → Int32) × Nat × Nat × Nat) :=
  (f_X10_isPart p0).bind fun q1 =>
  if q1 = 0 then
    some ((-3), h_solved, h_few, h_sum, h_min, hn1, hn2, hn3)
  else
    if w_src = 0 then
      some ((-4), h_solved, h_few, h_sum, h_min, hn1, hn2, hn3)
    else
      (f_X2_solve t_down t_pac t_lik t_lift w_src w_over h_solved h_few h_sum h_min hn1 hn2 hn3).bind fun q4 =>
      ri q4.2.2.1 q4.2.2.2.2.2.1 (w_src) fun x5 =>
      (f_X9_likelyOf w_src t_lik).bind fun q7 =>
      (f_X10_lowest (Int32.toInt64 x5) (Int32.toInt64 q7) p0).bind fun q8 =>
      some ((Int64.toInt32 q8), q4.1, q4.2.1, q4.2.2.1, q4.2.2.2.1, q4.2.2.2.2.1, q4.2.2.2.2.2.1, q4.2.2.2.2.2.2)
abbrev rmX10_mean : Room := { frames := 5, cells := 3, slots := 57344, locals := 116 }
set_option maxHeartbeats 4000000 in
set_option maxRecDepth 100000 in
theorem c_X10_mean {l : Launch} {D : va_G} {g : Nat → ClassId} {N : Nat} {ad : Nat → Nat} {C : Nat → va_E} {sz : Nat} {t_there : Int32} {t_lift : Int32} {t_none : Int32} {t_down : Nat → Int32} {t_pac : Nat → Int32} {t_lik : Nat → Int32} {w_src : Int32} {w_over : Nat → Int32} {h_solved : Int32} {hn1 : Nat} {h_few : Nat → Int32} {hn2 : Nat} {h_sum : Nat → Int32} {hn3 : Nat} {h_min : Nat → Int32} {p0 : Int32} {rr : Int32 × Int32 × (Nat → Int32) × (Nat → Int32) × (Nat → Int32) × Nat × Nat × Nat} (hN : 86 ≤ N) (hI : Inj N ad) (h0 : C 0 = .inr (10, [.ref (ad 1), .ref (ad 5), .ref (ad 19), .ref (ad 21), .ref (ad 60), .ref (ad 77), .ref (ad 81), .ref (ad 84), .ref (ad 85)])) (h5 : C 5 = .inr (7, [.ref (ad 6), .ref (ad 7), .ref (ad 8), .ref (ad 9), .ref (ad 10), .ref (ad 11), .ref (ad 12), .ref (ad 13), .ref (ad 14), .ref (ad 15), .ref (ad 16), .ref (ad 17), .ref (ad 18), .int t_there, .int t_lift, .int t_none])) (h6 : C 6 = aI g 12 t_down) (h8 : C 8 = aI g 12 t_pac) (h11 : C 11 = aI g 12 t_lik) (h19 : C 19 = .inr (9, [.ref (ad 5), .ref (ad 20), .int w_src])) (h20 : C 20 = aI g 12 w_over) (h77 : C 77 = .inr (2, [.ref (ad 5), .ref (ad 19), .ref (ad 78), .ref (ad 79), .ref (ad 80), .int h_solved])) (h78 : C 78 = aI g hn1 h_few) (h79 : C 79 = aI g hn2 h_sum) (h80 : C 80 = aI g hn3 h_min) (hf : f_X10_mean p0 t_down t_pac t_lik t_lift w_src w_over h_solved h_few h_sum h_min hn1 hn2 hn3 = some rr) : Met l yX10_mean wsX10_mean rmX10_mean (PcW D g N ad C sz [.ref (ad 0), .int p0]) (QiA D N ad sz tP rr.1 (fun ad' C' => (∀ i : Nat, i ≠ 78 → i ≠ 79 → i ≠ 80 → ad' i = ad i) ∧ (∀ i : Nat, i ≠ 77 ∧ i ≠ 78 ∧ i ≠ 79 ∧ i ≠ 80 → C' i = C i) ∧ (C' 77 = .inr (2, [.ref (ad' 5), .ref (ad' 19), .ref (ad' 78), .ref (ad' 79), .ref (ad' 80), .int rr.2.1])) ∧ (C' 78 = aI g rr.2.2.2.2.2.1 rr.2.2.1) ∧ (C' 79 = aI g rr.2.2.2.2.2.2.1 rr.2.2.2.1) ∧ (C' 80 = aI g rr.2.2.2.2.2.2.2 rr.2.2.2.2.1))) 3 57344 (Aw N ad sz) := by
  refine Met.ofW (cc := cX10_mean) (maxL := 2) (ret := (some .int)) (by decide) rfl ?_
  intro p e s m args below meth c s₁ B hml hv
  obtain ⟨hav, hsz, hK, hP⟩ := hv
  subst hsz
  have hx := B.exec
  have hb := B.bytes
  have hr := B.returns
  have hts := atoms_spec (ws := wsX10_mean) B.pre
  have hown : s.vm.findClass RX10 = some m.cls := findClass_of_methodNamed B.named
  have hlocks := B.notSynchronized
  generalize hQ : MQ below (QiA D N ad s.heap.size tP rr.1 (fun ad' C' => (∀ i : Nat, i ≠ 78 → i ≠ 79 → i ≠ 80 → ad' i = ad i) ∧ (∀ i : Nat, i ≠ 77 ∧ i ≠ 78 ∧ i ≠ 79 ∧ i ≠ 80 → C' i = C i) ∧ (C' 77 = .inr (2, [.ref (ad' 5), .ref (ad' 19), .ref (ad' 78), .ref (ad' 79), .ref (ad' 80), .int rr.2.1])) ∧ (C' 78 = aI g rr.2.2.2.2.2.1 rr.2.2.1) ∧ (C' 79 = aI g rr.2.2.2.2.2.2.1 rr.2.2.2.1) ∧ (C' 80 = aI g rr.2.2.2.2.2.2.2 rr.2.2.2.2.1))) args s 3 57344 (Aw N ad s.heap.size) = QQ
  obtain ⟨ad0, had0⟩ : ∃ z : Nat → Nat, z = ad := ⟨_, rfl⟩
  rw [← had0] at hQ
  have hadT : ∀ i : Nat, i ≠ 78 → i ≠ 79 → i ≠ 80 → ad i = ad0 i := fun i _ _ _ => by rw [had0]
  have hS : va_S (Aw N ad0 s.heap.size) s.heap s.heap [] := va_S.rf
  have hA : ∀ q, s.heap.size ≤ q → (Aw N ad0 s.heap.size) q := fun q h => Or.inr h
  have hAd : ∀ j : Nat, j < N → (Aw N ad0 s.heap.size) (ad j) := fun j h => Or.inl ⟨j, h, by rw [had0]⟩
  obtain ⟨C0, hC0⟩ : ∃ C0 : Nat → va_E, C0 = C := ⟨_, rfl⟩
  have hag : ∀ i : Nat, i ≠ 77 ∧ i ≠ 78 ∧ i ≠ 79 ∧ i ≠ 80 → C i = C0 i := fun i _ => by rw [hC0]
  rw [← hC0] at hQ
  have k0 := hts (.fieldLink RX10 28 "UpDrain" "ways" "LUpDrain$Ways;") (List.mem_of_getElem? (i := 1) rfl)
  have nX10 : ∀ w ∈ u_ws RX10 TX10 9, w ∈ wsX10_mean := fun _ h => List.mem_cons_of_mem _ (List.mem_append_left _ (List.mem_append_left _ (List.mem_append_left _ (List.mem_append_right _ h))))
  have k2 := nf_55 (A := args) hK
  have nX9 : ∀ w ∈ u_ws RX9 TX9 3, w ∈ wsX10_mean := fun _ h => List.mem_cons_of_mem _ (List.mem_append_left _ (List.mem_append_left _ (List.mem_append_right _ h)))
  have k4 := hts (.fieldLink RX10 53 "UpDrain" "hunt" "LUpDrain$Hunt;") (List.mem_of_getElem? (i := 2) rfl)
  have k5 := nf_71 (A := args) hK
  have nX2 : ∀ w ∈ u_ws RX2 TX2 6, w ∈ wsX10_mean := fun _ h => List.mem_cons_of_mem _ (List.mem_append_left _ (List.mem_append_right _ h))
  have hE := lg_entry_eq m [.ref (ad 0), .int p0] 2
  rw [← hav] at hE
  rw [hE]
  have hl := lv_entry [.ref (ad 0), .int p0] (n := 2) (Nat.le_of_ble_eq_true rfl)
  generalize (lg_sl [.ref (ad 0), .int p0] ++ List.replicate (2 - (lg_sl [.ref (ad 0), .int p0]).length) Slot.unset).toArray = ls at hl ⊢
  have hl : lv_has ls 2 [(0, .ref (ad 0)), (1, .int p0)] := hl
  clear hE
  unfold f_X10_mean at hf
  suffices hgo : ∀ (H : Heap) (locs : List Loc), va_P D vwCl (wd N ad C) H → va_S (Aw N ad0 s.heap.size) s.heap H locs → W p l e (headSpec wsX10_mean rmX10_mean).room s m args below meth c H locs 0 0 QQ (F0 m 0 ls []) from hgo s.heap [] hP hS
  clear hS hP
  intro H locs hP hS
  refine lv_iload_n hx hb dX10_mean_0 rfl (lv_at hl 1 rfl) ?_
  obtain ⟨q1, hq1, hf⟩ := bd_e hf
  refine k_iR (va_runS (As := [.int p0]) (rest := []) ⟨hx, hb, hml, hown, hts⟩ (c_X10_isPart (l := l) (sz := H.size) (p0 := p0) hq1) (va_cwS 1 hts gX10_mean_X10_isPart rfl rfl rfl (by decide +kernel) ⟨Nat.le_of_ble_eq_true rfl, Nat.le_of_ble_eq_true rfl⟩) preS0 rfl rfl hl.1 rfl (lv_room (Nat.le_of_ble_eq_true rfl)) dX10_mean_1 ⟨Nat.le_of_ble_eq_true rfl, Nat.le_of_ble_eq_true rfl⟩) hA hP hS (fun H locs hP hS hbz_q1 => ?_)
  refine lv_if_ne (tgt := 10) hx hb dX10_mean_4 (by decide) (fun c2 => ?_) (fun c2 => ?_)
  · have hf := ie_e c2 hf
    refine lv_aload_n hx hb dX10_mean_10 rfl (lv_at hl 0 rfl) ?_
    refine r_get (own := RX10) (T := TX10) (n := 9) (ci := 10) (v := .ref (ad 19)) hx hb hts nX10 hown hK hP (by omega) h0 rfl 2 (by decide) k0 rfl dX10_mean_11 ?_
    refine r_getN (own := RX10) (T := TX9) (n := 3) (ci := 9) (v := .int w_src) hx hb hts nX9 hown hK hP (by omega) h19 rfl 2 (by decide) k2 rfl dX10_mean_14 ?_
    refine lv_if_ne (tgt := 23) hx hb dX10_mean_17 (by decide) (fun c3 => ?_) (fun c3 => ?_)
    · have hf := ie_e c3 hf
      refine lv_aload_n hx hb dX10_mean_23 rfl (lv_at hl 0 rfl) ?_
      refine r_get (own := RX10) (T := TX10) (n := 9) (ci := 10) (v := .ref (ad 77)) hx hb hts nX10 hown hK hP (by omega) h0 rfl 5 (by decide) k4 rfl dX10_mean_24 ?_
      obtain ⟨q4, hq4, hf⟩ := bd_e hf
      refine k_vA (va_runV (C := RX2) (As := []) (rest := []) ⟨hx, hb, hml, hown, hts⟩ (c_X2_solve (l := l) (sz := H.size)  hN hI h5 h6 h8 h11 h19 h20 h77 h78 h79 h80 hq4) (cwV 0 hts gX10_mean_X2_solve rfl rfl rfl (by decide +kernel) ⟨Nat.le_of_ble_eq_true rfl, Nat.le_of_ble_eq_true rfl⟩) (preV_of hK hP (by omega) h77 rfl) rfl rfl hl.1 rfl (lv_room (Nat.le_of_ble_eq_true rfl)) dX10_mean_27 ⟨Nat.le_of_ble_eq_true rfl, Nat.le_of_ble_eq_true rfl⟩) hA hAd hS (fun ad C H locs hI hAd hP hS hpo => ?_)
      refine W.widen (k := 3) (n := 57344) (Nat.le_refl _) (Nat.le_refl _) ?_
      obtain ⟨had, he, h77, h78, h79, h80⟩ := hpo
      have hadT : ∀ i : Nat, i ≠ 78 → i ≠ 79 → i ≠ 80 → ad i = ad0 i := fun i h1 h2 h3 => (had i h1 h2 h3).trans (hadT i h1 h2 h3)
      have hag : ∀ i : Nat, i ≠ 77 ∧ i ≠ 78 ∧ i ≠ 79 ∧ i ≠ 80 → C i = C0 i := fun i h => (he i (by omega)).trans (hag i h)
      have h0 : C 0 = .inr (10, [.ref (ad 1), .ref (ad 5), .ref (ad 19), .ref (ad 21), .ref (ad 60), .ref (ad 77), .ref (ad 81), .ref (ad 84), .ref (ad 85)]) := by rw [had 1 (by decide) (by decide) (by decide), had 5 (by decide) (by decide) (by decide), had 19 (by decide) (by decide) (by decide), had 21 (by decide) (by decide) (by decide), had 60 (by decide) (by decide) (by decide), had 77 (by decide) (by decide) (by decide), had 81 (by decide) (by decide) (by decide), had 84 (by decide) (by decide) (by decide), had 85 (by decide) (by decide) (by decide)]; exact (he 0 (by decide)).trans h0
      have h5 : C 5 = .inr (7, [.ref (ad 6), .ref (ad 7), .ref (ad 8), .ref (ad 9), .ref (ad 10), .ref (ad 11), .ref (ad 12), .ref (ad 13), .ref (ad 14), .ref (ad 15), .ref (ad 16), .ref (ad 17), .ref (ad 18), .int t_there, .int t_lift, .int t_none]) := by rw [had 6 (by decide) (by decide) (by decide), had 7 (by decide) (by decide) (by decide), had 8 (by decide) (by decide) (by decide), had 9 (by decide) (by decide) (by decide), had 10 (by decide) (by decide) (by decide), had 11 (by decide) (by decide) (by decide), had 12 (by decide) (by decide) (by decide), had 13 (by decide) (by decide) (by decide), had 14 (by decide) (by decide) (by decide), had 15 (by decide) (by decide) (by decide), had 16 (by decide) (by decide) (by decide), had 17 (by decide) (by decide) (by decide), had 18 (by decide) (by decide) (by decide)]; exact (he 5 (by decide)).trans h5
      have h6 := (he 6 (by decide)).trans h6
      have h8 := (he 8 (by decide)).trans h8
      have h11 := (he 11 (by decide)).trans h11
      have h19 : C 19 = .inr (9, [.ref (ad 5), .ref (ad 20), .int w_src]) := by rw [had 5 (by decide) (by decide) (by decide), had 20 (by decide) (by decide) (by decide)]; exact (he 19 (by decide)).trans h19
      have h20 := (he 20 (by decide)).trans h20
      have hl : lv_has ls 2 [(0, .ref (ad 0)), (1, .int p0)] := by rw [had 0 (by decide) (by decide) (by decide)]; exact hl
      refine lv_aload_n hx hb dX10_mean_30 rfl (lv_at hl 0 rfl) ?_
      refine r_get (own := RX10) (T := TX10) (n := 9) (ci := 10) (v := .ref (ad 77)) hx hb hts nX10 hown hK hP (by omega) h0 rfl 5 (by decide) k4 rfl dX10_mean_31 ?_
      refine r_getN (own := RX10) (T := TX2) (n := 6) (ci := 2) (v := .ref (ad 79)) hx hb hts nX2 hown hK hP (by omega) h77 rfl 3 (by decide) k5 rfl dX10_mean_34 ?_
      refine lv_aload_n hx hb dX10_mean_37 rfl (lv_at hl 0 rfl) ?_
      refine r_get (own := RX10) (T := TX10) (n := 9) (ci := 10) (v := .ref (ad 19)) hx hb hts nX10 hown hK hP (by omega) h0 rfl 2 (by decide) k0 rfl dX10_mean_38 ?_
      refine r_getN (own := RX10) (T := TX9) (n := 3) (ci := 9) (v := .int w_src) hx hb hts nX9 hown hK hP (by omega) h19 rfl 2 (by decide) k2 rfl dX10_mean_41 ?_
      obtain ⟨i6, x5, ex5, hf⟩ := ri_e hf
      refine r_iald hx hb hK hP (by omega) h79 i6 dX10_mean_44 ex5 ?_
      refine lv_i2l hx hb dX10_mean_45 rfl ?_
      refine lv_aload_n hx hb dX10_mean_46 rfl (lv_at hl 0 rfl) ?_
      refine r_get (own := RX10) (T := TX10) (n := 9) (ci := 10) (v := .ref (ad 19)) hx hb hts nX10 hown hK hP (by omega) h0 rfl 2 (by decide) k0 rfl dX10_mean_47 ?_
      refine lv_aload_n hx hb dX10_mean_50 rfl (lv_at hl 0 rfl) ?_
      refine r_get (own := RX10) (T := TX10) (n := 9) (ci := 10) (v := .ref (ad 19)) hx hb hts nX10 hown hK hP (by omega) h0 rfl 2 (by decide) k0 rfl dX10_mean_51 ?_
      refine r_getN (own := RX10) (T := TX9) (n := 3) (ci := 9) (v := .int w_src) hx hb hts nX9 hown hK hP (by omega) h19 rfl 2 (by decide) k2 rfl dX10_mean_54 ?_
      obtain ⟨q7, hq7, hf⟩ := bd_e hf
      refine k_iR (va_runV (C := RX9) (As := [.int w_src]) (rest := [.long (Int32.toInt64 x5)]) ⟨hx, hb, hml, hown, hts⟩ (c_X9_likelyOf (l := l) (sz := H.size) (p0 := w_src) hN h5 h11 h19 hq7) (cwV 1 hts gX10_mean_X9_likelyOf rfl rfl rfl (by decide +kernel) ⟨Nat.le_of_ble_eq_true rfl, Nat.le_of_ble_eq_true rfl⟩) (preV_of hK hP (by omega) h19 rfl) rfl rfl hl.1 rfl (lv_room (Nat.le_of_ble_eq_true rfl)) dX10_mean_57 ⟨Nat.le_of_ble_eq_true rfl, Nat.le_of_ble_eq_true rfl⟩) hA hP hS (fun H locs hP hS hbz_q7 => ?_)
      refine lv_i2l hx hb dX10_mean_60 rfl ?_
      refine lv_iload_n hx hb dX10_mean_61 rfl (lv_at hl 1 rfl) ?_
      obtain ⟨q8, hq8, hf⟩ := bd_e hf
      refine k_lR (va_runS (As := [.long (Int32.toInt64 x5), .long (Int32.toInt64 q7), .int p0]) (rest := []) ⟨hx, hb, hml, hown, hts⟩ (c_X10_lowest (l := l) (sz := H.size) (p0 := (Int32.toInt64 x5)) (p1 := (Int32.toInt64 q7)) (p2 := p0) hq8) (va_cwS 3 hts gX10_mean_X10_lowest rfl rfl rfl (by decide +kernel) ⟨Nat.le_of_ble_eq_true rfl, Nat.le_of_ble_eq_true rfl⟩) preS0 rfl rfl hl.1 rfl (lv_room (Nat.le_of_ble_eq_true rfl)) dX10_mean_62 ⟨Nat.le_of_ble_eq_true rfl, Nat.le_of_ble_eq_true rfl⟩) hA hP hS (fun H locs hP hS => ?_)
      refine lv_l2i hx hb dX10_mean_65 rfl ?_
      obtain rfl := Option.some.inj hf
      rw [← hQ]
      exact e_iA hx hb hr rfl (tP_i _) hI hAd hP hS ⟨hadT, hag, h77, h78, h79, h80⟩ hlocks dX10_mean_66
    · have hf := it_e c3 hf
      refine lv_bipush (v := (-4)) hx hb dX10_mean_20 (by decide) ?_
      obtain rfl := Option.some.inj hf
      rw [← hQ]
      refine W.widen (k := 3) (n := 57344) (by omega) (by omega) ?_
      exact e_iA hx hb hr rfl (tP_i _) hI hAd hP hS ⟨hadT, hag, h77, h78, h79, h80⟩ hlocks dX10_mean_22
  · have hf := it_e c2 hf
    refine lv_bipush (v := (-3)) hx hb dX10_mean_7 (by decide) ?_
    obtain rfl := Option.some.inj hf
    rw [← hQ]
    refine W.widen (k := 3) (n := 57344) (by omega) (by omega) ?_
    exact e_iA hx hb hr rfl (tP_i _) hI hAd hP hS ⟨hadT, hag, h77, h78, h79, h80⟩ hlocks dX10_mean_9

def f_X10_soon (p0 : Int32) (p1 : Int32) (t_down : Nat → Int32) (t_pac : Nat → Int32) (t_lik : Nat → Int32) (t_there : Int32) (t_lift : Int32) (w_src : Int32) (w_over : Nat → Int32) (h_solved : Int32) (h_few : Nat → Int32) (h_sum : Nat → Int32) (h_min : Nat → Int32) (hn1 : Nat) (hn2 : Nat) (hn3 : Nat) : Option (Int32 × Int32 × (Nat → Int32) × (Nat → Int32) × (Nat → Int32) × Nat × Nat × Nat) :=
  (f_X10_isThere p0 t_there).bind fun q1 =>
  if q1 = 0 then
    some ((-2), h_solved, h_few, h_sum, h_min, hn1, hn2, hn3)
  else
    (f_X10_isPart p1).bind fun q3 =>
    if q3 = 0 then
      some ((-3), h_solved, h_few, h_sum, h_min, hn1, hn2, hn3)
    else
      (f_X2_solve t_down t_pac t_lik t_lift w_src w_over h_solved h_few h_sum h_min hn1 hn2 hn3).bind fun q5 =>
      if p1 = 0 then
        ri q5.2.2.2.1 q5.2.2.2.2.2.2 (((w_src * 12) + p0)) fun x8 =>
        some (x8, q5.1, q5.2.1, q5.2.2.1, q5.2.2.2.1, q5.2.2.2.2.1, q5.2.2.2.2.2.1, q5.2.2.2.2.2.2)
      else
        (f_X2_nextLid p0 w_src t_down t_pac t_lift w_over q5.2.2.2.1 q5.2.2.2.2.2.2).bind fun q7 =>
        some (q7, q5.1, q5.2.1, q5.2.2.1, q5.2.2.2.1, q5.2.2.2.2.1, q5.2.2.2.2.2.1, q5.2.2.2.2.2.2)
abbrev rmX10_soon : Room := { frames := 5, cells := 3, slots := 57344, locals := 116 }
set_option maxHeartbeats 4000000 in
set_option maxRecDepth 100000 in
theorem c_X10_soon {l : Launch} {D : va_G} {g : Nat → ClassId} {N : Nat} {ad : Nat → Nat} {C : Nat → va_E} {sz : Nat} {t_there : Int32} {t_lift : Int32} {t_none : Int32} {t_down : Nat → Int32} {t_pac : Nat → Int32} {t_lik : Nat → Int32} {w_src : Int32} {w_over : Nat → Int32} {h_solved : Int32} {hn1 : Nat} {h_few : Nat → Int32} {hn2 : Nat} {h_sum : Nat → Int32} {hn3 : Nat} {h_min : Nat → Int32} {p0 : Int32} {p1 : Int32} {rr : Int32 × Int32 × (Nat → Int32) × (Nat → Int32) × (Nat → Int32) × Nat × Nat × Nat} (hN : 86 ≤ N) (hI : Inj N ad) (h0 : C 0 = .inr (10, [.ref (ad 1), .ref (ad 5), .ref (ad 19), .ref (ad 21), .ref (ad 60), .ref (ad 77), .ref (ad 81), .ref (ad 84), .ref (ad 85)])) (h5 : C 5 = .inr (7, [.ref (ad 6), .ref (ad 7), .ref (ad 8), .ref (ad 9), .ref (ad 10), .ref (ad 11), .ref (ad 12), .ref (ad 13), .ref (ad 14), .ref (ad 15), .ref (ad 16), .ref (ad 17), .ref (ad 18), .int t_there, .int t_lift, .int t_none])) (h6 : C 6 = aI g 12 t_down) (h8 : C 8 = aI g 12 t_pac) (h11 : C 11 = aI g 12 t_lik) (h19 : C 19 = .inr (9, [.ref (ad 5), .ref (ad 20), .int w_src])) (h20 : C 20 = aI g 12 w_over) (h77 : C 77 = .inr (2, [.ref (ad 5), .ref (ad 19), .ref (ad 78), .ref (ad 79), .ref (ad 80), .int h_solved])) (h78 : C 78 = aI g hn1 h_few) (h79 : C 79 = aI g hn2 h_sum) (h80 : C 80 = aI g hn3 h_min) (hf : f_X10_soon p0 p1 t_down t_pac t_lik t_there t_lift w_src w_over h_solved h_few h_sum h_min hn1 hn2 hn3 = some rr) : Met l yX10_soon wsX10_soon rmX10_soon (PcW D g N ad C sz [.ref (ad 0), .int p0, .int p1]) (QiA D N ad sz tP rr.1 (fun ad' C' => (∀ i : Nat, i ≠ 78 → i ≠ 79 → i ≠ 80 → ad' i = ad i) ∧ (∀ i : Nat, i ≠ 77 ∧ i ≠ 78 ∧ i ≠ 79 ∧ i ≠ 80 → C' i = C i) ∧ (C' 77 = .inr (2, [.ref (ad' 5), .ref (ad' 19), .ref (ad' 78), .ref (ad' 79), .ref (ad' 80), .int rr.2.1])) ∧ (C' 78 = aI g rr.2.2.2.2.2.1 rr.2.2.1) ∧ (C' 79 = aI g rr.2.2.2.2.2.2.1 rr.2.2.2.1) ∧ (C' 80 = aI g rr.2.2.2.2.2.2.2 rr.2.2.2.2.1))) 3 57344 (Aw N ad sz) := by
  refine Met.ofW (cc := cX10_soon) (maxL := 3) (ret := (some .int)) (by decide) rfl ?_
  intro p e s m args below meth c s₁ B hml hv
  obtain ⟨hav, hsz, hK, hP⟩ := hv
  subst hsz
  have hx := B.exec
  have hb := B.bytes
  have hr := B.returns
  have hts := atoms_spec (ws := wsX10_soon) B.pre
  have hown : s.vm.findClass RX10 = some m.cls := findClass_of_methodNamed B.named
  have hlocks := B.notSynchronized
  generalize hQ : MQ below (QiA D N ad s.heap.size tP rr.1 (fun ad' C' => (∀ i : Nat, i ≠ 78 → i ≠ 79 → i ≠ 80 → ad' i = ad i) ∧ (∀ i : Nat, i ≠ 77 ∧ i ≠ 78 ∧ i ≠ 79 ∧ i ≠ 80 → C' i = C i) ∧ (C' 77 = .inr (2, [.ref (ad' 5), .ref (ad' 19), .ref (ad' 78), .ref (ad' 79), .ref (ad' 80), .int rr.2.1])) ∧ (C' 78 = aI g rr.2.2.2.2.2.1 rr.2.2.1) ∧ (C' 79 = aI g rr.2.2.2.2.2.2.1 rr.2.2.2.1) ∧ (C' 80 = aI g rr.2.2.2.2.2.2.2 rr.2.2.2.2.1))) args s 3 57344 (Aw N ad s.heap.size) = QQ
  obtain ⟨ad0, had0⟩ : ∃ z : Nat → Nat, z = ad := ⟨_, rfl⟩
  rw [← had0] at hQ
  have hadT : ∀ i : Nat, i ≠ 78 → i ≠ 79 → i ≠ 80 → ad i = ad0 i := fun i _ _ _ => by rw [had0]
  have hS : va_S (Aw N ad0 s.heap.size) s.heap s.heap [] := va_S.rf
  have hA : ∀ q, s.heap.size ≤ q → (Aw N ad0 s.heap.size) q := fun q h => Or.inr h
  have hAd : ∀ j : Nat, j < N → (Aw N ad0 s.heap.size) (ad j) := fun j h => Or.inl ⟨j, h, by rw [had0]⟩
  obtain ⟨C0, hC0⟩ : ∃ C0 : Nat → va_E, C0 = C := ⟨_, rfl⟩
  have hag : ∀ i : Nat, i ≠ 77 ∧ i ≠ 78 ∧ i ≠ 79 ∧ i ≠ 80 → C i = C0 i := fun i _ => by rw [hC0]
  rw [← hC0] at hQ
  have k0 := hts (.fieldLink RX10 53 "UpDrain" "hunt" "LUpDrain$Hunt;") (List.mem_of_getElem? (i := 1) rfl)
  have nX10 : ∀ w ∈ u_ws RX10 TX10 9, w ∈ wsX10_soon := fun _ h => List.mem_cons_of_mem _ (List.mem_append_left _ (List.mem_append_left _ (List.mem_append_left _ (List.mem_append_right _ h))))
  have k2 := hts (.fieldLink RX10 28 "UpDrain" "ways" "LUpDrain$Ways;") (List.mem_of_getElem? (i := 2) rfl)
  have k3 := nf_55 (A := args) hK
  have nX9 : ∀ w ∈ u_ws RX9 TX9 3, w ∈ wsX10_soon := fun _ h => List.mem_cons_of_mem _ (List.mem_append_left _ (List.mem_append_right _ h))
  have k5 := nf_72 (A := args) hK
  have nX2 : ∀ w ∈ u_ws RX2 TX2 6, w ∈ wsX10_soon := fun _ h => List.mem_cons_of_mem _ (List.mem_append_left _ (List.mem_append_left _ (List.mem_append_right _ h)))
  have hE := lg_entry_eq m [.ref (ad 0), .int p0, .int p1] 3
  rw [← hav] at hE
  rw [hE]
  have hl := lv_entry [.ref (ad 0), .int p0, .int p1] (n := 3) (Nat.le_of_ble_eq_true rfl)
  generalize (lg_sl [.ref (ad 0), .int p0, .int p1] ++ List.replicate (3 - (lg_sl [.ref (ad 0), .int p0, .int p1]).length) Slot.unset).toArray = ls at hl ⊢
  have hl : lv_has ls 3 [(0, .ref (ad 0)), (1, .int p0), (2, .int p1)] := hl
  clear hE
  unfold f_X10_soon at hf
  suffices hgo : ∀ (H : Heap) (locs : List Loc), va_P D vwCl (wd N ad C) H → va_S (Aw N ad0 s.heap.size) s.heap H locs → W p l e (headSpec wsX10_soon rmX10_soon).room s m args below meth c H locs 0 0 QQ (F0 m 0 ls []) from hgo s.heap [] hP hS
  clear hS hP
  intro H locs hP hS
  refine lv_aload_n hx hb dX10_soon_0 rfl (lv_at hl 0 rfl) ?_
  refine lv_iload_n hx hb dX10_soon_1 rfl (lv_at hl 1 rfl) ?_
  obtain ⟨q1, hq1, hf⟩ := bd_e hf
  refine k_iR (va_runV (C := RX10) (As := [.int p0]) (rest := []) ⟨hx, hb, hml, hown, hts⟩ (c_X10_isThere (l := l) (sz := H.size) (p0 := p0) hN h0 h5 hq1) (cwV 1 hts gX10_soon_X10_isThere rfl rfl rfl (by decide +kernel) ⟨Nat.le_of_ble_eq_true rfl, Nat.le_of_ble_eq_true rfl⟩) (preV_of hK hP (by omega) h0 rfl) rfl rfl hl.1 rfl (lv_room (Nat.le_of_ble_eq_true rfl)) dX10_soon_2 ⟨Nat.le_of_ble_eq_true rfl, Nat.le_of_ble_eq_true rfl⟩) hA hP hS (fun H locs hP hS hbz_q1 => ?_)
  refine lv_if_ne (tgt := 11) hx hb dX10_soon_5 (by decide) (fun c2 => ?_) (fun c2 => ?_)
  · have hf := ie_e c2 hf
    refine lv_iload_n hx hb dX10_soon_11 rfl (lv_at hl 2 rfl) ?_
    obtain ⟨q3, hq3, hf⟩ := bd_e hf
    refine k_iR (va_runS (As := [.int p1]) (rest := []) ⟨hx, hb, hml, hown, hts⟩ (c_X10_isPart (l := l) (sz := H.size) (p0 := p1) hq3) (va_cwS 1 hts gX10_soon_X10_isPart rfl rfl rfl (by decide +kernel) ⟨Nat.le_of_ble_eq_true rfl, Nat.le_of_ble_eq_true rfl⟩) preS0 rfl rfl hl.1 rfl (lv_room (Nat.le_of_ble_eq_true rfl)) dX10_soon_12 ⟨Nat.le_of_ble_eq_true rfl, Nat.le_of_ble_eq_true rfl⟩) hA hP hS (fun H locs hP hS hbz_q3 => ?_)
    refine lv_if_ne (tgt := 21) hx hb dX10_soon_15 (by decide) (fun c4 => ?_) (fun c4 => ?_)
    · have hf := ie_e c4 hf
      refine lv_aload_n hx hb dX10_soon_21 rfl (lv_at hl 0 rfl) ?_
      refine r_get (own := RX10) (T := TX10) (n := 9) (ci := 10) (v := .ref (ad 77)) hx hb hts nX10 hown hK hP (by omega) h0 rfl 5 (by decide) k0 rfl dX10_soon_22 ?_
      obtain ⟨q5, hq5, hf⟩ := bd_e hf
      refine k_vA (va_runV (C := RX2) (As := []) (rest := []) ⟨hx, hb, hml, hown, hts⟩ (c_X2_solve (l := l) (sz := H.size)  hN hI h5 h6 h8 h11 h19 h20 h77 h78 h79 h80 hq5) (cwV 0 hts gX10_soon_X2_solve rfl rfl rfl (by decide +kernel) ⟨Nat.le_of_ble_eq_true rfl, Nat.le_of_ble_eq_true rfl⟩) (preV_of hK hP (by omega) h77 rfl) rfl rfl hl.1 rfl (lv_room (Nat.le_of_ble_eq_true rfl)) dX10_soon_25 ⟨Nat.le_of_ble_eq_true rfl, Nat.le_of_ble_eq_true rfl⟩) hA hAd hS (fun ad C H locs hI hAd hP hS hpo => ?_)
      refine W.widen (k := 3) (n := 57344) (Nat.le_refl _) (Nat.le_refl _) ?_
      obtain ⟨had, he, h77, h78, h79, h80⟩ := hpo
      have hadT : ∀ i : Nat, i ≠ 78 → i ≠ 79 → i ≠ 80 → ad i = ad0 i := fun i h1 h2 h3 => (had i h1 h2 h3).trans (hadT i h1 h2 h3)
      have hag : ∀ i : Nat, i ≠ 77 ∧ i ≠ 78 ∧ i ≠ 79 ∧ i ≠ 80 → C i = C0 i := fun i h => (he i (by omega)).trans (hag i h)
      have h0 : C 0 = .inr (10, [.ref (ad 1), .ref (ad 5), .ref (ad 19), .ref (ad 21), .ref (ad 60), .ref (ad 77), .ref (ad 81), .ref (ad 84), .ref (ad 85)]) := by rw [had 1 (by decide) (by decide) (by decide), had 5 (by decide) (by decide) (by decide), had 19 (by decide) (by decide) (by decide), had 21 (by decide) (by decide) (by decide), had 60 (by decide) (by decide) (by decide), had 77 (by decide) (by decide) (by decide), had 81 (by decide) (by decide) (by decide), had 84 (by decide) (by decide) (by decide), had 85 (by decide) (by decide) (by decide)]; exact (he 0 (by decide)).trans h0
      have h5 : C 5 = .inr (7, [.ref (ad 6), .ref (ad 7), .ref (ad 8), .ref (ad 9), .ref (ad 10), .ref (ad 11), .ref (ad 12), .ref (ad 13), .ref (ad 14), .ref (ad 15), .ref (ad 16), .ref (ad 17), .ref (ad 18), .int t_there, .int t_lift, .int t_none]) := by rw [had 6 (by decide) (by decide) (by decide), had 7 (by decide) (by decide) (by decide), had 8 (by decide) (by decide) (by decide), had 9 (by decide) (by decide) (by decide), had 10 (by decide) (by decide) (by decide), had 11 (by decide) (by decide) (by decide), had 12 (by decide) (by decide) (by decide), had 13 (by decide) (by decide) (by decide), had 14 (by decide) (by decide) (by decide), had 15 (by decide) (by decide) (by decide), had 16 (by decide) (by decide) (by decide), had 17 (by decide) (by decide) (by decide), had 18 (by decide) (by decide) (by decide)]; exact (he 5 (by decide)).trans h5
      have h6 := (he 6 (by decide)).trans h6
      have h8 := (he 8 (by decide)).trans h8
      have h11 := (he 11 (by decide)).trans h11
      have h19 : C 19 = .inr (9, [.ref (ad 5), .ref (ad 20), .int w_src]) := by rw [had 5 (by decide) (by decide) (by decide), had 20 (by decide) (by decide) (by decide)]; exact (he 19 (by decide)).trans h19
      have h20 := (he 20 (by decide)).trans h20
      have hl : lv_has ls 3 [(0, .ref (ad 0)), (1, .int p0), (2, .int p1)] := by rw [had 0 (by decide) (by decide) (by decide)]; exact hl
      refine lv_iload_n hx hb dX10_soon_28 rfl (lv_at hl 2 rfl) ?_
      refine lv_if_ne (tgt := 55) hx hb dX10_soon_29 (by decide) (fun c6 => ?_) (fun c6 => ?_)
      · have hf := ie_e c6 hf
        refine lv_aload_n hx hb dX10_soon_55 rfl (lv_at hl 0 rfl) ?_
        refine r_get (own := RX10) (T := TX10) (n := 9) (ci := 10) (v := .ref (ad 77)) hx hb hts nX10 hown hK hP (by omega) h0 rfl 5 (by decide) k0 rfl dX10_soon_56 ?_
        refine lv_iload_n hx hb dX10_soon_59 rfl (lv_at hl 1 rfl) ?_
        refine lv_aload_n hx hb dX10_soon_60 rfl (lv_at hl 0 rfl) ?_
        refine r_get (own := RX10) (T := TX10) (n := 9) (ci := 10) (v := .ref (ad 19)) hx hb hts nX10 hown hK hP (by omega) h0 rfl 2 (by decide) k2 rfl dX10_soon_61 ?_
        refine r_getN (own := RX10) (T := TX9) (n := 3) (ci := 9) (v := .int w_src) hx hb hts nX9 hown hK hP (by omega) h19 rfl 2 (by decide) k3 rfl dX10_soon_64 ?_
        obtain ⟨q7, hq7, hf⟩ := bd_e hf
        refine k_iR (va_runV (C := RX2) (As := [.int p0, .int w_src]) (rest := []) ⟨hx, hb, hml, hown, hts⟩ (c_X2_nextLid (l := l) (sz := H.size) (p0 := p0) (p1 := w_src) hN h5 h6 h8 h19 h20 h77 h80 hq7) (cwV 2 hts gX10_soon_X2_nextLid rfl rfl rfl (by decide +kernel) ⟨Nat.le_of_ble_eq_true rfl, Nat.le_of_ble_eq_true rfl⟩) (preV_of hK hP (by omega) h77 rfl) rfl rfl hl.1 rfl (lv_room (Nat.le_of_ble_eq_true rfl)) dX10_soon_67 ⟨Nat.le_of_ble_eq_true rfl, Nat.le_of_ble_eq_true rfl⟩) hA hP hS (fun H locs hP hS hbz_q7 => ?_)
        obtain rfl := Option.some.inj hf
        rw [← hQ]
        exact e_iA hx hb hr rfl (tP_i _) hI hAd hP hS ⟨hadT, hag, h77, h78, h79, h80⟩ hlocks dX10_soon_70
      · have hf := it_e c6 hf
        refine lv_aload_n hx hb dX10_soon_32 rfl (lv_at hl 0 rfl) ?_
        refine r_get (own := RX10) (T := TX10) (n := 9) (ci := 10) (v := .ref (ad 77)) hx hb hts nX10 hown hK hP (by omega) h0 rfl 5 (by decide) k0 rfl dX10_soon_33 ?_
        refine r_getN (own := RX10) (T := TX2) (n := 6) (ci := 2) (v := .ref (ad 80)) hx hb hts nX2 hown hK hP (by omega) h77 rfl 4 (by decide) k5 rfl dX10_soon_36 ?_
        refine lv_aload_n hx hb dX10_soon_39 rfl (lv_at hl 0 rfl) ?_
        refine r_get (own := RX10) (T := TX10) (n := 9) (ci := 10) (v := .ref (ad 19)) hx hb hts nX10 hown hK hP (by omega) h0 rfl 2 (by decide) k2 rfl dX10_soon_40 ?_
        refine r_getN (own := RX10) (T := TX9) (n := 3) (ci := 9) (v := .int w_src) hx hb hts nX9 hown hK hP (by omega) h19 rfl 2 (by decide) k3 rfl dX10_soon_43 ?_
        refine lv_bipush (v := 12) hx hb dX10_soon_46 (by decide) ?_
        refine lv_imul hx hb dX10_soon_48 ?_
        refine lv_iload_n hx hb dX10_soon_49 rfl (lv_at hl 1 rfl) ?_
        refine lv_iadd hx hb dX10_soon_50 ?_
        obtain ⟨i9, x8, ex8, hf⟩ := ri_e hf
        refine r_iald hx hb hK hP (by omega) h80 i9 dX10_soon_51 ex8 ?_
        refine lv_goto (tgt := 70) hx hb dX10_soon_52 (by decide) ?_
        obtain rfl := Option.some.inj hf
        rw [← hQ]
        exact e_iA hx hb hr rfl (tP_i _) hI hAd hP hS ⟨hadT, hag, h77, h78, h79, h80⟩ hlocks dX10_soon_70
    · have hf := it_e c4 hf
      refine lv_bipush (v := (-3)) hx hb dX10_soon_18 (by decide) ?_
      obtain rfl := Option.some.inj hf
      rw [← hQ]
      refine W.widen (k := 3) (n := 57344) (by omega) (by omega) ?_
      exact e_iA hx hb hr rfl (tP_i _) hI hAd hP hS ⟨hadT, hag, h77, h78, h79, h80⟩ hlocks dX10_soon_20
  · have hf := it_e c2 hf
    refine lv_bipush (v := (-2)) hx hb dX10_soon_8 (by decide) ?_
    obtain rfl := Option.some.inj hf
    rw [← hQ]
    refine W.widen (k := 3) (n := 57344) (by omega) (by omega) ?_
    exact e_iA hx hb hr rfl (tP_i _) hI hAd hP hS ⟨hadT, hag, h77, h78, h79, h80⟩ hlocks dX10_soon_10

def LX10_areLids_2 (p0 : Int32) (p1 : Int32) (t_there : Int32) (ko : Int32 → Option (Int32)) : Nat → Int32 → Option (Int32)
  | 0, _ => none
  | n + 1, x1 =>
    if p1 ≤ x1 then
      ko x1
    else
      (f_X3_lidOf p0 x1).bind fun q4 =>
      (f_X10_isThere q4 t_there).bind fun q5 =>
      if q5 = 0 then
        some (0)
      else
        lt (x1 + 1 : Int32) fun x7 =>
        LX10_areLids_2 p0 p1 t_there ko n x7
theorem LX10_areLids_2_z (p0 : Int32) (p1 : Int32) (t_there : Int32) (ko : Int32 → Option (Int32)) (x1 : Int32) : LX10_areLids_2 p0 p1 t_there ko 0 x1 = none := rfl
theorem LX10_areLids_2_s (p0 : Int32) (p1 : Int32) (t_there : Int32) (ko : Int32 → Option (Int32)) (n : Nat) (x1 : Int32) : LX10_areLids_2 p0 p1 t_there ko (n + 1) x1 =
    if p1 ≤ x1 then
      ko x1
    else
      (f_X3_lidOf p0 x1).bind fun q4 =>
      (f_X10_isThere q4 t_there).bind fun q5 =>
      if q5 = 0 then
        some (0)
      else
        lt (x1 + 1 : Int32) fun x7 =>
        LX10_areLids_2 p0 p1 t_there ko n x7 := rfl
def f_X10_areLids (p0 : Int32) (p1 : Int32) (t_there : Int32) : Option (Int32) :=
  LX10_areLids_2 p0 p1 t_there (fun x2 =>
    some (1)) FU 0
abbrev rmX10_areLids : Room := { frames := 2, cells := 0, slots := 0, locals := 42 }
set_option maxHeartbeats 4000000 in
set_option maxRecDepth 100000 in
theorem c_X10_areLids {l : Launch} {D : va_G} {g : Nat → ClassId} {N : Nat} {ad : Nat → Nat} {C : Nat → va_E} {sz : Nat} {t_there : Int32} {t_lift : Int32} {t_none : Int32} {p0 : Int32} {p1 : Int32} {rr : Int32} (hN : 86 ≤ N) (h0 : C 0 = .inr (10, [.ref (ad 1), .ref (ad 5), .ref (ad 19), .ref (ad 21), .ref (ad 60), .ref (ad 77), .ref (ad 81), .ref (ad 84), .ref (ad 85)])) (h5 : C 5 = .inr (7, [.ref (ad 6), .ref (ad 7), .ref (ad 8), .ref (ad 9), .ref (ad 10), .ref (ad 11), .ref (ad 12), .ref (ad 13), .ref (ad 14), .ref (ad 15), .ref (ad 16), .ref (ad 17), .ref (ad 18), .int t_there, .int t_lift, .int t_none])) (hf : f_X10_areLids p0 p1 t_there = some rr) : Met l yX10_areLids wsX10_areLids rmX10_areLids (PcW D g N ad C sz [.ref (ad 0), .int p0, .int p1]) (QiR sz bz rr) 0 0 (An sz) := by
  refine Met.ofW (cc := cX10_areLids) (maxL := 4) (ret := (some .boolean)) (by decide) rfl ?_
  intro p e s m args below meth c s₁ B hml hv
  obtain ⟨hav, hsz, hK, hP⟩ := hv
  subst hsz
  have hx := B.exec
  have hb := B.bytes
  have hr := B.returns
  have hts := atoms_spec (ws := wsX10_areLids) B.pre
  have hown : s.vm.findClass RX10 = some m.cls := findClass_of_methodNamed B.named
  have hlocks := B.notSynchronized
  generalize hQ : MQ below (QiR s.heap.size bz rr) args s 0 0 (An s.heap.size) = QQ
  have hS : va_S (An s.heap.size) s.heap s.heap [] := va_S.rf
  have hA : ∀ q, s.heap.size ≤ q → (An s.heap.size) q := fun q h => h
  have hE := lg_entry_eq m [.ref (ad 0), .int p0, .int p1] 4
  rw [← hav] at hE
  rw [hE]
  have hl := lv_entry [.ref (ad 0), .int p0, .int p1] (n := 4) (Nat.le_of_ble_eq_true rfl)
  generalize (lg_sl [.ref (ad 0), .int p0, .int p1] ++ List.replicate (4 - (lg_sl [.ref (ad 0), .int p0, .int p1]).length) Slot.unset).toArray = ls at hl ⊢
  have hl : lv_has ls 4 [(0, .ref (ad 0)), (1, .int p0), (2, .int p1)] := hl
  clear hE
  unfold f_X10_areLids at hf
  suffices hgo : ∀ (H : Heap) (locs : List Loc), va_P D vwCl (wd N ad C) H → va_S (An s.heap.size) s.heap H locs → W p l e (headSpec wsX10_areLids rmX10_areLids).room s m args below meth c H locs 0 0 QQ (F0 m 0 ls []) from hgo s.heap [] hP hS
  clear hS hP
  intro H locs hP hS
  refine lv_iconst (v := 0) hx hb dX10_areLids_0 (by decide) ?_
  refine lv_istore_n (lv' := [(3, .int 0), (0, .ref (ad 0)), (1, .int p0), (2, .int p1)]) hx hb dX10_areLids_1 rfl hl (by decide) rfl (fun ls hl => ?_)
  have key2 : ∀ (ko : Int32 → Option (Int32)), (∀ (x2 : Int32) (C : Nat → va_E) (H : Heap) (locs : List Loc) (ls : Array Slot), va_P D vwCl (wd N ad C) H → va_S (An s.heap.size) s.heap H locs → C 0 = .inr (10, [.ref (ad 1), .ref (ad 5), .ref (ad 19), .ref (ad 21), .ref (ad 60), .ref (ad 77), .ref (ad 81), .ref (ad 84), .ref (ad 85)]) → C 5 = .inr (7, [.ref (ad 6), .ref (ad 7), .ref (ad 8), .ref (ad 9), .ref (ad 10), .ref (ad 11), .ref (ad 12), .ref (ad 13), .ref (ad 14), .ref (ad 15), .ref (ad 16), .ref (ad 17), .ref (ad 18), .int t_there, .int t_lift, .int t_none]) → lv_has ls 4 [(0, .ref (ad 0)), (1, .int p0), (2, .int p1), (3, .int x2)] → ko x2 = some rr → W p l e (headSpec wsX10_areLids rmX10_areLids).room s m args below meth c H locs 0 0 QQ (F0 m 27 ls [])) → ∀ (n : Nat) (x1 : Int32) (C : Nat → va_E) (H : Heap) (locs : List Loc) (ls : Array Slot), va_P D vwCl (wd N ad C) H → va_S (An s.heap.size) s.heap H locs → C 0 = .inr (10, [.ref (ad 1), .ref (ad 5), .ref (ad 19), .ref (ad 21), .ref (ad 60), .ref (ad 77), .ref (ad 81), .ref (ad 84), .ref (ad 85)]) → C 5 = .inr (7, [.ref (ad 6), .ref (ad 7), .ref (ad 8), .ref (ad 9), .ref (ad 10), .ref (ad 11), .ref (ad 12), .ref (ad 13), .ref (ad 14), .ref (ad 15), .ref (ad 16), .ref (ad 17), .ref (ad 18), .int t_there, .int t_lift, .int t_none]) → lv_has ls 4 [(0, .ref (ad 0)), (1, .int p0), (2, .int p1), (3, .int x1)] → LX10_areLids_2 p0 p1 t_there ko n x1 = some rr → W p l e (headSpec wsX10_areLids rmX10_areLids).room s m args below meth c H locs 0 0 QQ (F0 m 2 ls []) := by
    intro ko hko n
    induction n with
    | zero =>
      intro x1 C H locs ls hP hS h0 h5 hl hf
      rw [LX10_areLids_2_z] at hf
      cases hf
    | succ n ih =>
      intro x1 C H locs ls hP hS h0 h5 hl hf
      rw [LX10_areLids_2_s] at hf
      refine lv_iload_n hx hb dX10_areLids_2 rfl (lv_at hl 3 rfl) ?_
      refine lv_iload_n hx hb dX10_areLids_3 rfl (lv_at hl 2 rfl) ?_
      refine lv_icmp_ge (tgt := 27) hx hb dX10_areLids_4 (by decide) (fun c3 => ?_) (fun c3 => ?_)
      · have hf := it_e c3 hf
        exact hko x1 C H locs ls hP hS h0 h5 (lv_sub hl [0, 1, 2, 3] rfl) hf
      · have hf := ie_e c3 hf
        refine lv_aload_n hx hb dX10_areLids_7 rfl (lv_at hl 0 rfl) ?_
        refine lv_iload_n hx hb dX10_areLids_8 rfl (lv_at hl 1 rfl) ?_
        refine lv_iload_n hx hb dX10_areLids_9 rfl (lv_at hl 3 rfl) ?_
        obtain ⟨q4, hq4, hf⟩ := bd_e hf
        refine k_iR (va_runS (As := [.int p0, .int x1]) (rest := [.ref (ad 0)]) ⟨hx, hb, hml, hown, hts⟩ (c_X3_lidOf (l := l) (sz := H.size) (p0 := p0) (p1 := x1) hq4) (va_cwS 2 hts gX10_areLids_X3_lidOf rfl rfl rfl (by decide +kernel) ⟨Nat.le_of_ble_eq_true rfl, Nat.le_of_ble_eq_true rfl⟩) preS0 rfl rfl hl.1 rfl (lv_room (Nat.le_of_ble_eq_true rfl)) dX10_areLids_10 ⟨Nat.le_of_ble_eq_true rfl, Nat.le_of_ble_eq_true rfl⟩) hA hP hS (fun H locs hP hS hbz_q4 => ?_)
        obtain ⟨q5, hq5, hf⟩ := bd_e hf
        refine k_iR (va_runV (C := RX10) (As := [.int q4]) (rest := []) ⟨hx, hb, hml, hown, hts⟩ (c_X10_isThere (l := l) (sz := H.size) (p0 := q4) hN h0 h5 hq5) (cwV 1 hts gX10_areLids_X10_isThere rfl rfl rfl (by decide +kernel) ⟨Nat.le_of_ble_eq_true rfl, Nat.le_of_ble_eq_true rfl⟩) (preV_of hK hP (by omega) h0 rfl) rfl rfl hl.1 rfl (lv_room (Nat.le_of_ble_eq_true rfl)) dX10_areLids_13 ⟨Nat.le_of_ble_eq_true rfl, Nat.le_of_ble_eq_true rfl⟩) hA hP hS (fun H locs hP hS hbz_q5 => ?_)
        refine lv_if_ne (tgt := 21) hx hb dX10_areLids_16 (by decide) (fun c6 => ?_) (fun c6 => ?_)
        · have hf := ie_e c6 hf
          obtain ⟨x7, ex7, hf⟩ := lt_e hf
          refine lv_iinc (v := x7) (lv' := [(3, .int x7), (0, .ref (ad 0)), (1, .int p0), (2, .int p1)]) hx hb dX10_areLids_21 hl (k := 3) rfl (by rw [ex7]; rfl) (by decide) rfl (fun ls hl => ?_)
          refine lv_goto (tgt := 2) hx hb dX10_areLids_24 (by decide) ?_
          exact ih x7 C H locs ls hP hS h0 h5 (lv_sub hl [1, 2, 3, 0] rfl) hf
        · have hf := it_e c6 hf
          refine lv_iconst (v := 0) hx hb dX10_areLids_19 (by decide) ?_
          obtain rfl := Option.some.inj hf
          rw [← hQ]
          exact e_zR hx hb hr rfl bz0 hS hlocks dX10_areLids_20
  refine key2 _ (fun x2 C H locs ls hP hS h0 h5 hl hf => ?_) FU 0 C H locs ls hP hS h0 h5 (lv_sub hl [1, 2, 3, 0] rfl) hf
  refine lv_iconst (v := 1) hx hb dX10_areLids_27 (by decide) ?_
  obtain rfl := Option.some.inj hf
  rw [← hQ]
  exact e_zR hx hb hr rfl bz1 hS hlocks dX10_areLids_28

def f_X10_isShyness (p0 : Int32) : Option (Int32) :=
  if p0 < (-1) then
    some (0)
  else
    if 999 < p0 then
      some (0)
    else
      some (1)
abbrev rmX10_isShyness : Room := { frames := 0, cells := 0, slots := 0, locals := 0 }
set_option maxHeartbeats 4000000 in
set_option maxRecDepth 100000 in
theorem c_X10_isShyness {l : Launch} {sz : Nat}  {p0 : Int32} {rr : Int32} (hf : f_X10_isShyness p0 = some rr) : Met l yX10_isShyness wsX10_isShyness rmX10_isShyness (PcS sz [.int p0]) (QiR sz bz rr) 0 0 (An sz) := by
  refine Met.ofW (cc := cX10_isShyness) (maxL := 1) (ret := (some .boolean)) (by decide) rfl ?_
  intro p e s m args below meth c s₁ B hml hv
  obtain ⟨hav, hsz⟩ := hv
  subst hsz
  have hx := B.exec
  have hb := B.bytes
  have hr := B.returns
  have hts := atoms_spec (ws := wsX10_isShyness) B.pre
  have hown : s.vm.findClass RX10 = some m.cls := findClass_of_methodNamed B.named
  have hlocks := B.notSynchronized
  generalize hQ : MQ below (QiR s.heap.size bz rr) args s 0 0 (An s.heap.size) = QQ
  have hS : va_S (An s.heap.size) s.heap s.heap [] := va_S.rf
  have hA : ∀ q, s.heap.size ≤ q → (An s.heap.size) q := fun q h => h
  have hE := lg_entry_eq m [.int p0] 1
  rw [← hav] at hE
  rw [hE]
  have hl := lv_entry [.int p0] (n := 1) (Nat.le_of_ble_eq_true rfl)
  generalize (lg_sl [.int p0] ++ List.replicate (1 - (lg_sl [.int p0]).length) Slot.unset).toArray = ls at hl ⊢
  have hl : lv_has ls 1 [(0, .int p0)] := hl
  clear hE
  unfold f_X10_isShyness at hf
  suffices hgo : ∀ (H : Heap) (locs : List Loc), va_S (An s.heap.size) s.heap H locs → W p l e (headSpec wsX10_isShyness rmX10_isShyness).room s m args below meth c H locs 0 0 QQ (F0 m 0 ls []) from hgo s.heap [] hS
  clear hS
  intro H locs hS
  refine lv_iload_n hx hb dX10_isShyness_0 rfl (lv_at hl 0 rfl) ?_
  refine lv_iconst (v := (-1)) hx hb dX10_isShyness_1 (by decide) ?_
  refine lv_icmp_lt (tgt := 16) hx hb dX10_isShyness_2 (by decide) (fun c1 => ?_) (fun c1 => ?_)
  · have hf := it_e c1 hf
    refine lv_iconst (v := 0) hx hb dX10_isShyness_16 (by decide) ?_
    obtain rfl := Option.some.inj hf
    rw [← hQ]
    exact e_zR hx hb hr rfl bz0 hS hlocks dX10_isShyness_17
  · have hf := ie_e c1 hf
    refine lv_iload_n hx hb dX10_isShyness_5 rfl (lv_at hl 0 rfl) ?_
    refine lv_sipush (v := 999) hx hb dX10_isShyness_6 (by decide) ?_
    refine lv_icmp_gt (tgt := 16) hx hb dX10_isShyness_9 (by decide) (fun c2 => ?_) (fun c2 => ?_)
    · have hf := it_e c2 hf
      refine lv_iconst (v := 0) hx hb dX10_isShyness_16 (by decide) ?_
      obtain rfl := Option.some.inj hf
      rw [← hQ]
      exact e_zR hx hb hr rfl bz0 hS hlocks dX10_isShyness_17
    · have hf := ie_e c2 hf
      refine lv_iconst (v := 1) hx hb dX10_isShyness_12 (by decide) ?_
      refine lv_goto (tgt := 17) hx hb dX10_isShyness_13 (by decide) ?_
      obtain rfl := Option.some.inj hf
      rw [← hQ]
      exact e_zR hx hb hr rfl bz1 hS hlocks dX10_isShyness_17

def f_X10_row (p0 : Int32) (p1 : Int32) (p2 : Int32) (p3 : Int32) (t_down : Nat → Int32) (t_pac : Nat → Int32) (t_there : Int32) (w_src : Int32) (w_over : Nat → Int32) (l_kinds : Nat → Int32) : Option (Int32 × (Nat → Int32)) :=
  if p1 < 1 then
    some ((-3), l_kinds)
  else
    if p1 ≤ 8 then
      (f_X10_areLids p0 p1 t_there).bind fun q3 =>
      if q3 = 0 then
        some ((-2), l_kinds)
      else
        (f_X10_isPart p3).bind fun q5 =>
        if q5 = 0 then
          some ((-3), l_kinds)
        else
          (f_X10_isShyness p2).bind fun q7 =>
          if q7 = 0 then
            some ((-3), l_kinds)
          else
            if p3 = 0 then
              (f_X3_kindsIn p0 p1 p2 t_down t_pac w_src w_over l_kinds).bind fun q11 =>
              some (q11.1, q11.2)
            else
              (f_X3_largestIn p0 p1 p2 t_down t_pac w_src w_over l_kinds).bind fun q10 =>
              some (q10.1, q10.2)
    else
      some ((-3), l_kinds)
abbrev rmX10_row : Room := { frames := 4, cells := 0, slots := 0, locals := 104 }
set_option maxHeartbeats 4000000 in
set_option maxRecDepth 100000 in
theorem c_X10_row {l : Launch} {D : va_G} {g : Nat → ClassId} {N : Nat} {ad : Nat → Nat} {C : Nat → va_E} {sz : Nat} {t_there : Int32} {t_lift : Int32} {t_none : Int32} {t_down : Nat → Int32} {t_pac : Nat → Int32} {w_src : Int32} {w_over : Nat → Int32} {l_kinds : Nat → Int32} {p0 : Int32} {p1 : Int32} {p2 : Int32} {p3 : Int32} {rr : Int32 × (Nat → Int32)} (hN : 86 ≤ N) (hI : Inj N ad) (h0 : C 0 = .inr (10, [.ref (ad 1), .ref (ad 5), .ref (ad 19), .ref (ad 21), .ref (ad 60), .ref (ad 77), .ref (ad 81), .ref (ad 84), .ref (ad 85)])) (h5 : C 5 = .inr (7, [.ref (ad 6), .ref (ad 7), .ref (ad 8), .ref (ad 9), .ref (ad 10), .ref (ad 11), .ref (ad 12), .ref (ad 13), .ref (ad 14), .ref (ad 15), .ref (ad 16), .ref (ad 17), .ref (ad 18), .int t_there, .int t_lift, .int t_none])) (h6 : C 6 = aI g 12 t_down) (h8 : C 8 = aI g 12 t_pac) (h19 : C 19 = .inr (9, [.ref (ad 5), .ref (ad 20), .int w_src])) (h20 : C 20 = aI g 12 w_over) (h81 : C 81 = .inr (3, [.ref (ad 5), .ref (ad 19), .ref (ad 82), .ref (ad 83)])) (h82 : C 82 = aI g 12 l_kinds) (hf : f_X10_row p0 p1 p2 p3 t_down t_pac t_there w_src w_over l_kinds = some rr) : Met l yX10_row wsX10_row rmX10_row (PcW D g N ad C sz [.ref (ad 0), .int p0, .int p1, .int p2, .int p3]) (QiW D N ad sz tP rr.1 (fun C' => (∀ i : Nat, i ≠ 82 → C' i = C i) ∧ (C' 82 = aI g 12 rr.2))) 0 0 (Aw N ad sz) := by
  refine Met.ofW (cc := cX10_row) (maxL := 5) (ret := (some .int)) (by decide) rfl ?_
  intro p e s m args below meth c s₁ B hml hv
  obtain ⟨hav, hsz, hK, hP⟩ := hv
  subst hsz
  have hx := B.exec
  have hb := B.bytes
  have hr := B.returns
  have hts := atoms_spec (ws := wsX10_row) B.pre
  have hown : s.vm.findClass RX10 = some m.cls := findClass_of_methodNamed B.named
  have hlocks := B.notSynchronized
  generalize hQ : MQ below (QiW D N ad s.heap.size tP rr.1 (fun C' => (∀ i : Nat, i ≠ 82 → C' i = C i) ∧ (C' 82 = aI g 12 rr.2))) args s 0 0 (Aw N ad s.heap.size) = QQ
  have hS : va_S (Aw N ad s.heap.size) s.heap s.heap [] := va_S.rf
  have hA : ∀ q, s.heap.size ≤ q → (Aw N ad s.heap.size) q := fun q h => Or.inr h
  have hAd : ∀ j : Nat, j < N → (Aw N ad s.heap.size) (ad j) := fun j h => Or.inl ⟨j, h, rfl⟩
  obtain ⟨C0, hC0⟩ : ∃ C0 : Nat → va_E, C0 = C := ⟨_, rfl⟩
  have hag : ∀ i : Nat, i ≠ 82 → C i = C0 i := fun i _ => by rw [hC0]
  rw [← hC0] at hQ
  have k0 := hts (.fieldLink RX10 60 "UpDrain" "lids" "LUpDrain$Lids;") (List.mem_of_getElem? (i := 1) rfl)
  have nX10 : ∀ w ∈ u_ws RX10 TX10 9, w ∈ wsX10_row := fun _ h => List.mem_cons_of_mem _ (List.mem_append_left _ (List.mem_append_left _ (List.mem_append_left _ (List.mem_append_right _ h))))
  have hE := lg_entry_eq m [.ref (ad 0), .int p0, .int p1, .int p2, .int p3] 5
  rw [← hav] at hE
  rw [hE]
  have hl := lv_entry [.ref (ad 0), .int p0, .int p1, .int p2, .int p3] (n := 5) (Nat.le_of_ble_eq_true rfl)
  generalize (lg_sl [.ref (ad 0), .int p0, .int p1, .int p2, .int p3] ++ List.replicate (5 - (lg_sl [.ref (ad 0), .int p0, .int p1, .int p2, .int p3]).length) Slot.unset).toArray = ls at hl ⊢
  have hl : lv_has ls 5 [(0, .ref (ad 0)), (1, .int p0), (2, .int p1), (3, .int p2), (4, .int p3)] := hl
  clear hE
  unfold f_X10_row at hf
  suffices hgo : ∀ (H : Heap) (locs : List Loc), va_P D vwCl (wd N ad C) H → va_S (Aw N ad s.heap.size) s.heap H locs → W p l e (headSpec wsX10_row rmX10_row).room s m args below meth c H locs 0 0 QQ (F0 m 0 ls []) from hgo s.heap [] hP hS
  clear hS hP
  intro H locs hP hS
  refine lv_iload_n hx hb dX10_row_0 rfl (lv_at hl 2 rfl) ?_
  refine lv_iconst (v := 1) hx hb dX10_row_1 (by decide) ?_
  refine lv_icmp_lt (tgt := 11) hx hb dX10_row_2 (by decide) (fun c1 => ?_) (fun c1 => ?_)
  · have hf := it_e c1 hf
    refine lv_bipush (v := (-3)) hx hb dX10_row_11 (by decide) ?_
    obtain rfl := Option.some.inj hf
    rw [← hQ]
    exact e_iW hx hb hr rfl (tP_i _) hP hS ⟨hag, h82⟩ hlocks dX10_row_13
  · have hf := ie_e c1 hf
    refine lv_iload_n hx hb dX10_row_5 rfl (lv_at hl 2 rfl) ?_
    refine lv_bipush (v := 8) hx hb dX10_row_6 (by decide) ?_
    refine lv_icmp_le (tgt := 14) hx hb dX10_row_8 (by decide) (fun c2 => ?_) (fun c2 => ?_)
    · have hf := it_e c2 hf
      refine lv_aload_n hx hb dX10_row_14 rfl (lv_at hl 0 rfl) ?_
      refine lv_iload_n hx hb dX10_row_15 rfl (lv_at hl 1 rfl) ?_
      refine lv_iload_n hx hb dX10_row_16 rfl (lv_at hl 2 rfl) ?_
      obtain ⟨q3, hq3, hf⟩ := bd_e hf
      refine k_iR (va_runV (C := RX10) (As := [.int p0, .int p1]) (rest := []) ⟨hx, hb, hml, hown, hts⟩ (c_X10_areLids (l := l) (sz := H.size) (p0 := p0) (p1 := p1) hN h0 h5 hq3) (cwV 2 hts gX10_row_X10_areLids rfl rfl rfl (by decide +kernel) ⟨Nat.le_of_ble_eq_true rfl, Nat.le_of_ble_eq_true rfl⟩) (preV_of hK hP (by omega) h0 rfl) rfl rfl hl.1 rfl (lv_room (Nat.le_of_ble_eq_true rfl)) dX10_row_17 ⟨Nat.le_of_ble_eq_true rfl, Nat.le_of_ble_eq_true rfl⟩) hA hP hS (fun H locs hP hS hbz_q3 => ?_)
      refine lv_if_ne (tgt := 26) hx hb dX10_row_20 (by decide) (fun c4 => ?_) (fun c4 => ?_)
      · have hf := ie_e c4 hf
        refine lv_iload hx hb dX10_row_26 (lv_at hl 4 rfl) ?_
        obtain ⟨q5, hq5, hf⟩ := bd_e hf
        refine k_iR (va_runS (As := [.int p3]) (rest := []) ⟨hx, hb, hml, hown, hts⟩ (c_X10_isPart (l := l) (sz := H.size) (p0 := p3) hq5) (va_cwS 1 hts gX10_row_X10_isPart rfl rfl rfl (by decide +kernel) ⟨Nat.le_of_ble_eq_true rfl, Nat.le_of_ble_eq_true rfl⟩) preS0 rfl rfl hl.1 rfl (lv_room (Nat.le_of_ble_eq_true rfl)) dX10_row_28 ⟨Nat.le_of_ble_eq_true rfl, Nat.le_of_ble_eq_true rfl⟩) hA hP hS (fun H locs hP hS hbz_q5 => ?_)
        refine lv_if_eq (tgt := 41) hx hb dX10_row_31 (by decide) (fun c6 => ?_) (fun c6 => ?_)
        · have hf := it_e c6 hf
          refine lv_bipush (v := (-3)) hx hb dX10_row_41 (by decide) ?_
          obtain rfl := Option.some.inj hf
          rw [← hQ]
          exact e_iW hx hb hr rfl (tP_i _) hP hS ⟨hag, h82⟩ hlocks dX10_row_43
        · have hf := ie_e c6 hf
          refine lv_iload_n hx hb dX10_row_34 rfl (lv_at hl 3 rfl) ?_
          obtain ⟨q7, hq7, hf⟩ := bd_e hf
          refine k_iR (va_runS (As := [.int p2]) (rest := []) ⟨hx, hb, hml, hown, hts⟩ (c_X10_isShyness (l := l) (sz := H.size) (p0 := p2) hq7) (va_cwS 1 hts gX10_row_X10_isShyness rfl rfl rfl (by decide +kernel) ⟨Nat.le_of_ble_eq_true rfl, Nat.le_of_ble_eq_true rfl⟩) preS0 rfl rfl hl.1 rfl (lv_room (Nat.le_of_ble_eq_true rfl)) dX10_row_35 ⟨Nat.le_of_ble_eq_true rfl, Nat.le_of_ble_eq_true rfl⟩) hA hP hS (fun H locs hP hS hbz_q7 => ?_)
          refine lv_if_ne (tgt := 44) hx hb dX10_row_38 (by decide) (fun c8 => ?_) (fun c8 => ?_)
          · have hf := ie_e c8 hf
            refine lv_iload hx hb dX10_row_44 (lv_at hl 4 rfl) ?_
            refine lv_if_ne (tgt := 62) hx hb dX10_row_46 (by decide) (fun c9 => ?_) (fun c9 => ?_)
            · have hf := ie_e c9 hf
              refine lv_aload_n hx hb dX10_row_62 rfl (lv_at hl 0 rfl) ?_
              refine r_get (own := RX10) (T := TX10) (n := 9) (ci := 10) (v := .ref (ad 81)) hx hb hts nX10 hown hK hP (by omega) h0 rfl 6 (by decide) k0 rfl dX10_row_63 ?_
              refine lv_iload_n hx hb dX10_row_66 rfl (lv_at hl 1 rfl) ?_
              refine lv_iload_n hx hb dX10_row_67 rfl (lv_at hl 2 rfl) ?_
              refine lv_iload_n hx hb dX10_row_68 rfl (lv_at hl 3 rfl) ?_
              obtain ⟨q10, hq10, hf⟩ := bd_e hf
              refine k_iW (va_runV (C := RX3) (As := [.int p0, .int p1, .int p2]) (rest := []) ⟨hx, hb, hml, hown, hts⟩ (c_X3_largestIn (l := l) (sz := H.size) (p0 := p0) (p1 := p1) (p2 := p2) hN hI h5 h6 h8 h19 h20 h81 h82 hq10) (cwV 3 hts gX10_row_X3_largestIn rfl rfl rfl (by decide +kernel) ⟨Nat.le_of_ble_eq_true rfl, Nat.le_of_ble_eq_true rfl⟩) (preV_of hK hP (by omega) h81 rfl) rfl rfl hl.1 rfl (lv_room (Nat.le_of_ble_eq_true rfl)) dX10_row_69 ⟨Nat.le_of_ble_eq_true rfl, Nat.le_of_ble_eq_true rfl⟩) hA hAd hS (fun C H locs hP hS hpo hbz_q10 => ?_)
              obtain ⟨he, h82⟩ := hpo
              have hag : ∀ i : Nat, i ≠ 82 → C i = C0 i := fun i h => (he i (by omega)).trans (hag i h)
              have h0 := (he 0 (by decide)).trans h0
              have h5 := (he 5 (by decide)).trans h5
              have h6 := (he 6 (by decide)).trans h6
              have h8 := (he 8 (by decide)).trans h8
              have h19 := (he 19 (by decide)).trans h19
              have h20 := (he 20 (by decide)).trans h20
              have h81 := (he 81 (by decide)).trans h81
              obtain rfl := Option.some.inj hf
              rw [← hQ]
              exact e_iW hx hb hr rfl (tP_i _) hP hS ⟨hag, h82⟩ hlocks dX10_row_72
            · have hf := it_e c9 hf
              refine lv_aload_n hx hb dX10_row_49 rfl (lv_at hl 0 rfl) ?_
              refine r_get (own := RX10) (T := TX10) (n := 9) (ci := 10) (v := .ref (ad 81)) hx hb hts nX10 hown hK hP (by omega) h0 rfl 6 (by decide) k0 rfl dX10_row_50 ?_
              refine lv_iload_n hx hb dX10_row_53 rfl (lv_at hl 1 rfl) ?_
              refine lv_iload_n hx hb dX10_row_54 rfl (lv_at hl 2 rfl) ?_
              refine lv_iload_n hx hb dX10_row_55 rfl (lv_at hl 3 rfl) ?_
              obtain ⟨q11, hq11, hf⟩ := bd_e hf
              refine k_iW (va_runV (C := RX3) (As := [.int p0, .int p1, .int p2]) (rest := []) ⟨hx, hb, hml, hown, hts⟩ (c_X3_kindsIn (l := l) (sz := H.size) (p0 := p0) (p1 := p1) (p2 := p2) hN hI h5 h6 h8 h19 h20 h81 h82 hq11) (cwV 3 hts gX10_row_X3_kindsIn rfl rfl rfl (by decide +kernel) ⟨Nat.le_of_ble_eq_true rfl, Nat.le_of_ble_eq_true rfl⟩) (preV_of hK hP (by omega) h81 rfl) rfl rfl hl.1 rfl (lv_room (Nat.le_of_ble_eq_true rfl)) dX10_row_56 ⟨Nat.le_of_ble_eq_true rfl, Nat.le_of_ble_eq_true rfl⟩) hA hAd hS (fun C H locs hP hS hpo hbz_q11 => ?_)
              obtain ⟨he, h82⟩ := hpo
              have hag : ∀ i : Nat, i ≠ 82 → C i = C0 i := fun i h => (he i (by omega)).trans (hag i h)
              have h0 := (he 0 (by decide)).trans h0
              have h5 := (he 5 (by decide)).trans h5
              have h6 := (he 6 (by decide)).trans h6
              have h8 := (he 8 (by decide)).trans h8
              have h19 := (he 19 (by decide)).trans h19
              have h20 := (he 20 (by decide)).trans h20
              have h81 := (he 81 (by decide)).trans h81
              refine lv_goto (tgt := 72) hx hb dX10_row_59 (by decide) ?_
              obtain rfl := Option.some.inj hf
              rw [← hQ]
              exact e_iW hx hb hr rfl (tP_i _) hP hS ⟨hag, h82⟩ hlocks dX10_row_72
          · have hf := it_e c8 hf
            refine lv_bipush (v := (-3)) hx hb dX10_row_41 (by decide) ?_
            obtain rfl := Option.some.inj hf
            rw [← hQ]
            exact e_iW hx hb hr rfl (tP_i _) hP hS ⟨hag, h82⟩ hlocks dX10_row_43
      · have hf := it_e c4 hf
        refine lv_bipush (v := (-2)) hx hb dX10_row_23 (by decide) ?_
        obtain rfl := Option.some.inj hf
        rw [← hQ]
        exact e_iW hx hb hr rfl (tP_i _) hP hS ⟨hag, h82⟩ hlocks dX10_row_25
    · have hf := ie_e c2 hf
      refine lv_bipush (v := (-3)) hx hb dX10_row_11 (by decide) ?_
      obtain rfl := Option.some.inj hf
      rw [← hQ]
      exact e_iW hx hb hr rfl (tP_i _) hP hS ⟨hag, h82⟩ hlocks dX10_row_13

