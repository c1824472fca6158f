def f_X11_thoughtOf (p0 : Int32) (m_down : Nat → Int32) (m_min : Nat → Int32) (m_gone : Nat → Int32) (m_flow : Nat → Int32) (m_lik : Nat → Int32) (m_str : Nat → Int32) (m_from : Nat → Int32) (m_to : Nat → Int32) (m_rain : Nat → Int32) (m_tell : Nat → Int32) (m_fy : Nat → Int32) (m_fn : Nat → Int32) (m_finds : Nat → Int32) (m_there : Int32) (m_blank : Int32) (m_fm : Int32) : Option (Int64) :=
  if p0 = (-1) then
    (f_X11_thought (Int32.toInt64 m_blank) (-1) (-1) m_down m_min m_gone m_flow m_str m_from m_to m_rain m_tell m_fy m_fn m_finds m_there m_fm).bind fun q5 =>
    some (q5)
  else
    ri m_lik 12 (p0) fun x2 =>
    (f_X11_thought (Int32.toInt64 x2) p0 (-1) m_down m_min m_gone m_flow m_str m_from m_to m_rain m_tell m_fy m_fn m_finds m_there m_fm).bind fun q4 =>
    some (q4)
abbrev rmX11_thoughtOf : Room := { frames := 6, cells := 0, slots := 0, locals := 154 }
set_option maxHeartbeats 4000000 in
set_option maxRecDepth 100000 in
theorem c_X11_thoughtOf {l : Launch} {D : va_G} {g : Nat → ClassId} {N : Nat} {ad : Nat → Nat} {C : Nat → va_E} {sz : Nat} {m_len : Int32} {m_rm : Int32} {m_there : Int32} {m_lift : Int32} {m_blank : Int32} {m_fm : Int32} {m_at : Int32} {m_pl : Int32} {m_end : Int32} {m_seed : Int32} {m_down : Nat → Int32} {m_min : Nat → Int32} {m_gone : Nat → Int32} {m_flow : Nat → Int32} {m_lik : Nat → Int32} {m_str : Nat → Int32} {m_from : Nat → Int32} {m_to : Nat → Int32} {m_rain : Nat → Int32} {m_tell : Nat → Int32} {m_fy : Nat → Int32} {m_fn : Nat → Int32} {m_finds : Nat → Int32} {p0 : Int32} {rr : Int64} (hN : 109 ≤ N) (h86 : C 86 = .inr (11, [.ref (ad 87), .int m_len, .ref (ad 88), .int m_rm, .int m_there, .ref (ad 89), .ref (ad 90), .ref (ad 91), .ref (ad 92), .ref (ad 93), .ref (ad 94), .ref (ad 95), .ref (ad 96), .ref (ad 97), .ref (ad 98), .ref (ad 99), .ref (ad 100), .ref (ad 101), .int m_lift, .int m_blank, .ref (ad 102), .int m_fm, .int m_at, .int m_pl, .int m_end, .ref (ad 103), .ref (ad 104), .ref (ad 105), .ref (ad 106), .ref (ad 107), .ref (ad 108), .int m_seed])) (h89 : C 89 = aI g 12 m_down) (h90 : C 90 = aI g 12 m_min) (h92 : C 92 = aI g 12 m_gone) (h93 : C 93 = aI g 12 m_flow) (h94 : C 94 = aI g 12 m_lik) (h95 : C 95 = aI g 12 m_str) (h96 : C 96 = aI g 12 m_from) (h97 : C 97 = aI g 12 m_to) (h98 : C 98 = aI g 24 m_rain) (h99 : C 99 = aI g 4 m_tell) (h100 : C 100 = aI g 4 m_fy) (h101 : C 101 = aI g 4 m_fn) (h102 : C 102 = aI g 50 m_finds) (hf : f_X11_thoughtOf p0 m_down m_min m_gone m_flow m_lik m_str m_from m_to m_rain m_tell m_fy m_fn m_finds m_there m_blank m_fm = some rr) : Met l yX11_thoughtOf wsX11_thoughtOf rmX11_thoughtOf (PcW D g N ad C sz [.ref (ad 86), .int p0]) (QlR sz rr) 0 0 (An sz) := by
  refine Met.ofW (cc := cX11_thoughtOf) (maxL := 2) (ret := (some .long)) (by decide) rfl ?_
  intro p e s m args below meth c s₁ B hml hv
  obtain ⟨hav, hsz, hK, hP⟩ := hv
  subst hsz
  have hx := B.exec
  have hb := B.bytes
  have hr := B.returns
  have hts := atoms_spec (ws := wsX11_thoughtOf) B.pre
  have hown : s.vm.findClass RX11 = some m.cls := findClass_of_methodNamed B.named
  have hlocks := B.notSynchronized
  generalize hQ : MQ below (QlR s.heap.size rr) args s 0 0 (An s.heap.size) = QQ
  have hS : va_S (An s.heap.size) s.heap s.heap [] := va_S.rf
  have hA : ∀ q, s.heap.size ≤ q → (An s.heap.size) q := fun q h => h
  have k0 := hts (.fieldLink RX11 35 "UpDrainModel" "likely" "[I") (List.mem_of_getElem? (i := 2) rfl)
  have nX11 : ∀ w ∈ u_ws RX11 TX11 32, w ∈ wsX11_thoughtOf := fun _ h => List.mem_cons_of_mem _ (List.mem_append_right _ h)
  have k2 := hts (.fieldLink RX11 146 "UpDrainModel" "blank" "I") (List.mem_of_getElem? (i := 1) rfl)
  have hE := lg_entry_eq m [.ref (ad 86), .int p0] 2
  rw [← hav] at hE
  rw [hE]
  have hl := lv_entry [.ref (ad 86), .int p0] (n := 2) (Nat.le_of_ble_eq_true rfl)
  generalize (lg_sl [.ref (ad 86), .int p0] ++ List.replicate (2 - (lg_sl [.ref (ad 86), .int p0]).length) Slot.unset).toArray = ls at hl ⊢
  have hl : lv_has ls 2 [(0, .ref (ad 86)), (1, .int p0)] := hl
  clear hE
  unfold f_X11_thoughtOf at hf
  suffices hgo : ∀ (H : Heap) (locs : List Loc), va_P D vwCl (wd N ad C) H → va_S (An s.heap.size) s.heap H locs → W p l e (headSpec wsX11_thoughtOf rmX11_thoughtOf).room s m args below meth c H locs 0 0 QQ (F0 m 0 ls []) from hgo s.heap [] hP hS
  clear hS hP
  intro H locs hP hS
  refine lv_iload_n hx hb dX11_thoughtOf_0 rfl (lv_at hl 1 rfl) ?_
  refine lv_iconst (v := (-1)) hx hb dX11_thoughtOf_1 (by decide) ?_
  refine lv_icmp_ne (tgt := 19) hx hb dX11_thoughtOf_2 (by decide) (fun c1 => ?_) (fun c1 => ?_)
  · have hf := ie_e c1 hf
    refine lv_aload_n hx hb dX11_thoughtOf_19 rfl (lv_at hl 0 rfl) ?_
    refine lv_aload_n hx hb dX11_thoughtOf_20 rfl (lv_at hl 0 rfl) ?_
    refine r_get (own := RX11) (T := TX11) (n := 32) (ci := 11) (v := .ref (ad 94)) hx hb hts nX11 hown hK hP (by omega) h86 rfl 10 (by decide) k0 rfl dX11_thoughtOf_21 ?_
    refine lv_iload_n hx hb dX11_thoughtOf_24 rfl (lv_at hl 1 rfl) ?_
    obtain ⟨i3, x2, ex2, hf⟩ := ri_e hf
    refine r_iald hx hb hK hP (by omega) h94 i3 dX11_thoughtOf_25 ex2 ?_
    refine lv_i2l hx hb dX11_thoughtOf_26 rfl ?_
    refine lv_iload_n hx hb dX11_thoughtOf_27 rfl (lv_at hl 1 rfl) ?_
    refine lv_iconst (v := (-1)) hx hb dX11_thoughtOf_28 (by decide) ?_
    obtain ⟨q4, hq4, hf⟩ := bd_e hf
    refine k_lR (va_runV (C := RX11) (As := [.long (Int32.toInt64 x2), .int p0, .int (-1)]) (rest := []) ⟨hx, hb, hml, hown, hts⟩ (c_X11_thought (l := l) (sz := H.size) (p0 := (Int32.toInt64 x2)) (p1 := p0) (p2 := (-1)) hN h86 h89 h90 h92 h93 h95 h96 h97 h98 h99 h100 h101 h102 hq4) (cwV 3 hts gX11_thoughtOf_X11_thought rfl rfl rfl (by decide +kernel) ⟨Nat.le_of_ble_eq_true rfl, Nat.le_of_ble_eq_true rfl⟩) (preV_of hK hP (by omega) h86 rfl) rfl rfl hl.1 rfl (lv_room (Nat.le_of_ble_eq_true rfl)) dX11_thoughtOf_29 ⟨Nat.le_of_ble_eq_true rfl, Nat.le_of_ble_eq_true rfl⟩) hA hP hS (fun H locs hP hS => ?_)
    obtain rfl := Option.some.inj hf
    rw [← hQ]
    exact e_lR hx hb hr rfl hS hlocks dX11_thoughtOf_32
  · have hf := it_e c1 hf
    refine lv_aload_n hx hb dX11_thoughtOf_5 rfl (lv_at hl 0 rfl) ?_
    refine lv_aload_n hx hb dX11_thoughtOf_6 rfl (lv_at hl 0 rfl) ?_
    refine r_get (own := RX11) (T := TX11) (n := 32) (ci := 11) (v := .int m_blank) hx hb hts nX11 hown hK hP (by omega) h86 rfl 19 (by decide) k2 rfl dX11_thoughtOf_7 ?_
    refine lv_i2l hx hb dX11_thoughtOf_10 rfl ?_
    refine lv_iconst (v := (-1)) hx hb dX11_thoughtOf_11 (by decide) ?_
    refine lv_iconst (v := (-1)) hx hb dX11_thoughtOf_12 (by decide) ?_
    obtain ⟨q5, hq5, hf⟩ := bd_e hf
    refine k_lR (va_runV (C := RX11) (As := [.long (Int32.toInt64 m_blank), .int (-1), .int (-1)]) (rest := []) ⟨hx, hb, hml, hown, hts⟩ (c_X11_thought (l := l) (sz := H.size) (p0 := (Int32.toInt64 m_blank)) (p1 := (-1)) (p2 := (-1)) hN h86 h89 h90 h92 h93 h95 h96 h97 h98 h99 h100 h101 h102 hq5) (cwV 3 hts gX11_thoughtOf_X11_thought rfl rfl rfl (by decide +kernel) ⟨Nat.le_of_ble_eq_true rfl, Nat.le_of_ble_eq_true rfl⟩) (preV_of hK hP (by omega) h86 rfl) rfl rfl hl.1 rfl (lv_room (Nat.le_of_ble_eq_true rfl)) dX11_thoughtOf_13 ⟨Nat.le_of_ble_eq_true rfl, Nat.le_of_ble_eq_true rfl⟩) hA hP hS (fun H locs hP hS => ?_)
    refine lv_goto (tgt := 32) hx hb dX11_thoughtOf_16 (by decide) ?_
    obtain rfl := Option.some.inj hf
    rw [← hQ]
    exact e_lR hx hb hr rfl hS hlocks dX11_thoughtOf_32

def LX11_allThought_14 (m_down : Nat → Int32) (m_min : Nat → Int32) (m_gone : Nat → Int32) (m_flow : Nat → Int32) (m_lik : Nat → Int32) (m_str : Nat → Int32) (m_from : Nat → Int32) (m_to : Nat → Int32) (m_rain : Nat → Int32) (m_tell : Nat → Int32) (m_fy : Nat → Int32) (m_fn : Nat → Int32) (m_finds : Nat → Int32) (m_there : Int32) (m_blank : Int32) (m_fm : Int32) (q1 : Int32) (ko : Int64 → Int32 → Option (Int64)) : Nat → Int64 → Int32 → Option (Int64)
  | 0, _, _ => none
  | n + 1, x3, x4 =>
    if 12 ≤ x4 then
      ko x3 x4
    else
      (f_X11_has q1 x4).bind fun q8 =>
      (if q8 = 0 then
        some ((0 : Int64))
      else
        (f_X11_thoughtOf x4 m_down m_min m_gone m_flow m_lik m_str m_from m_to m_rain m_tell m_fy m_fn m_finds m_there m_blank m_fm).bind fun q13 =>
        some (q13) : Option (Int64)).bind fun q9 =>
      lt ((x3 + q9) : Int64) fun x10 =>
      lt (x4 + 1 : Int32) fun x11 =>
      LX11_allThought_14 m_down m_min m_gone m_flow m_lik m_str m_from m_to m_rain m_tell m_fy m_fn m_finds m_there m_blank m_fm q1 ko n x10 x11
theorem LX11_allThought_14_z (m_down : Nat → Int32) (m_min : Nat → Int32) (m_gone : Nat → Int32) (m_flow : Nat → Int32) (m_lik : Nat → Int32) (m_str : Nat → Int32) (m_from : Nat → Int32) (m_to : Nat → Int32) (m_rain : Nat → Int32) (m_tell : Nat → Int32) (m_fy : Nat → Int32) (m_fn : Nat → Int32) (m_finds : Nat → Int32) (m_there : Int32) (m_blank : Int32) (m_fm : Int32) (q1 : Int32) (ko : Int64 → Int32 → Option (Int64)) (x3 : Int64) (x4 : Int32) : LX11_allThought_14 m_down m_min m_gone m_flow m_lik m_str m_from m_to m_rain m_tell m_fy m_fn m_finds m_there m_blank m_fm q1 ko 0 x3 x4 = none := rfl
theorem LX11_allThought_14_s (m_down : Nat → Int32) (m_min : Nat → Int32) (m_gone : Nat → Int32) (m_flow : Nat → Int32) (m_lik : Nat → Int32) (m_str : Nat → Int32) (m_from : Nat → Int32) (m_to : Nat → Int32) (m_rain : Nat → Int32) (m_tell : Nat → Int32) (m_fy : Nat → Int32) (m_fn : Nat → Int32) (m_finds : Nat → Int32) (m_there : Int32) (m_blank : Int32) (m_fm : Int32) (q1 : Int32) (ko : Int64 → Int32 → Option (Int64)) (n : Nat) (x3 : Int64) (x4 : Int32) : LX11_allThought_14 m_down m_min m_gone m_flow m_lik m_str m_from m_to m_rain m_tell m_fy m_fn m_finds m_there m_blank m_fm q1 ko (n + 1) x3 x4 =
    if 12 ≤ x4 then
      ko x3 x4
    else
      (f_X11_has q1 x4).bind fun q8 =>
      (if q8 = 0 then
        some ((0 : Int64))
      else
        (f_X11_thoughtOf x4 m_down m_min m_gone m_flow m_lik m_str m_from m_to m_rain m_tell m_fy m_fn m_finds m_there m_blank m_fm).bind fun q13 =>
        some (q13) : Option (Int64)).bind fun q9 =>
      lt ((x3 + q9) : Int64) fun x10 =>
      lt (x4 + 1 : Int32) fun x11 =>
      LX11_allThought_14 m_down m_min m_gone m_flow m_lik m_str m_from m_to m_rain m_tell m_fy m_fn m_finds m_there m_blank m_fm q1 ko n x10 x11 := rfl
def f_X11_allThought (m_down : Nat → Int32) (m_min : Nat → Int32) (m_gone : Nat → Int32) (m_flow : Nat → Int32) (m_lik : Nat → Int32) (m_str : Nat → Int32) (m_from : Nat → Int32) (m_to : Nat → Int32) (m_rain : Nat → Int32) (m_tell : Nat → Int32) (m_fy : Nat → Int32) (m_fn : Nat → Int32) (m_finds : Nat → Int32) (m_there : Int32) (m_blank : Int32) (m_fm : Int32) : Option (Int64) :=
  (f_X11_sources m_lik m_there).bind fun q1 =>
  (f_X11_thoughtOf (-1) m_down m_min m_gone m_flow m_lik m_str m_from m_to m_rain m_tell m_fy m_fn m_finds m_there m_blank m_fm).bind fun q2 =>
  LX11_allThought_14 m_down m_min m_gone m_flow m_lik m_str m_from m_to m_rain m_tell m_fy m_fn m_finds m_there m_blank m_fm q1 (fun x5 x6 =>
    some (x5)) FU q2 0
abbrev rmX11_allThought : Room := { frames := 7, cells := 0, slots := 0, locals := 175 }
set_option maxHeartbeats 4000000 in
set_option maxRecDepth 100000 in
theorem c_X11_allThought {l : Launch} {D : va_G} {g : Nat → ClassId} {N : Nat} {ad : Nat → Nat} {C : Nat → va_E} {sz : Nat} {m_len : Int32} {m_rm : Int32} {m_there : Int32} {m_lift : Int32} {m_blank : Int32} {m_fm : Int32} {m_at : Int32} {m_pl : Int32} {m_end : Int32} {m_seed : Int32} {m_down : Nat → Int32} {m_min : Nat → Int32} {m_gone : Nat → Int32} {m_flow : Nat → Int32} {m_lik : Nat → Int32} {m_str : Nat → Int32} {m_from : Nat → Int32} {m_to : Nat → Int32} {m_rain : Nat → Int32} {m_tell : Nat → Int32} {m_fy : Nat → Int32} {m_fn : Nat → Int32} {m_finds : Nat → Int32}  {rr : Int64} (hN : 109 ≤ N) (h86 : C 86 = .inr (11, [.ref (ad 87), .int m_len, .ref (ad 88), .int m_rm, .int m_there, .ref (ad 89), .ref (ad 90), .ref (ad 91), .ref (ad 92), .ref (ad 93), .ref (ad 94), .ref (ad 95), .ref (ad 96), .ref (ad 97), .ref (ad 98), .ref (ad 99), .ref (ad 100), .ref (ad 101), .int m_lift, .int m_blank, .ref (ad 102), .int m_fm, .int m_at, .int m_pl, .int m_end, .ref (ad 103), .ref (ad 104), .ref (ad 105), .ref (ad 106), .ref (ad 107), .ref (ad 108), .int m_seed])) (h89 : C 89 = aI g 12 m_down) (h90 : C 90 = aI g 12 m_min) (h92 : C 92 = aI g 12 m_gone) (h93 : C 93 = aI g 12 m_flow) (h94 : C 94 = aI g 12 m_lik) (h95 : C 95 = aI g 12 m_str) (h96 : C 96 = aI g 12 m_from) (h97 : C 97 = aI g 12 m_to) (h98 : C 98 = aI g 24 m_rain) (h99 : C 99 = aI g 4 m_tell) (h100 : C 100 = aI g 4 m_fy) (h101 : C 101 = aI g 4 m_fn) (h102 : C 102 = aI g 50 m_finds) (hf : f_X11_allThought m_down m_min m_gone m_flow m_lik m_str m_from m_to m_rain m_tell m_fy m_fn m_finds m_there m_blank m_fm = some rr) : Met l yX11_allThought wsX11_allThought rmX11_allThought (PcW D g N ad C sz [.ref (ad 86)]) (QlR sz rr) 0 0 (An sz) := by
  refine Met.ofW (cc := cX11_allThought) (maxL := 5) (ret := (some .long)) (by decide) rfl ?_
  intro p e s m args below meth c s₁ B hml hv
  obtain ⟨hav, hsz, hK, hP⟩ := hv
  subst hsz
  have hx := B.exec
  have hb := B.bytes
  have hr := B.returns
  have hts := atoms_spec (ws := wsX11_allThought) B.pre
  have hown : s.vm.findClass RX11 = some m.cls := findClass_of_methodNamed B.named
  have hlocks := B.notSynchronized
  generalize hQ : MQ below (QlR s.heap.size rr) args s 0 0 (An s.heap.size) = QQ
  have hS : va_S (An s.heap.size) s.heap s.heap [] := va_S.rf
  have hA : ∀ q, s.heap.size ≤ q → (An s.heap.size) q := fun q h => h
  have hE := lg_entry_eq m [.ref (ad 86)] 5
  rw [← hav] at hE
  rw [hE]
  have hl := lv_entry [.ref (ad 86)] (n := 5) (Nat.le_of_ble_eq_true rfl)
  generalize (lg_sl [.ref (ad 86)] ++ List.replicate (5 - (lg_sl [.ref (ad 86)]).length) Slot.unset).toArray = ls at hl ⊢
  have hl : lv_has ls 5 [(0, .ref (ad 86))] := hl
  clear hE
  unfold f_X11_allThought at hf
  suffices hgo : ∀ (H : Heap) (locs : List Loc), va_P D vwCl (wd N ad C) H → va_S (An s.heap.size) s.heap H locs → W p l e (headSpec wsX11_allThought rmX11_allThought).room s m args below meth c H locs 0 0 QQ (F0 m 0 ls []) from hgo s.heap [] hP hS
  clear hS hP
  intro H locs hP hS
  refine lv_aload_n hx hb dX11_allThought_0 rfl (lv_at hl 0 rfl) ?_
  obtain ⟨q1, hq1, hf⟩ := bd_e hf
  refine k_iR (va_runV (C := RX11) (As := []) (rest := []) ⟨hx, hb, hml, hown, hts⟩ (c_X11_sources (l := l) (sz := H.size)  hN h86 h94 hq1) (cwV 0 hts gX11_allThought_X11_sources rfl rfl rfl (by decide +kernel) ⟨Nat.le_of_ble_eq_true rfl, Nat.le_of_ble_eq_true rfl⟩) (preV_of hK hP (by omega) h86 rfl) rfl rfl hl.1 rfl (lv_room (Nat.le_of_ble_eq_true rfl)) dX11_allThought_1 ⟨Nat.le_of_ble_eq_true rfl, Nat.le_of_ble_eq_true rfl⟩) hA hP hS (fun H locs hP hS hbz_q1 => ?_)
  refine lv_istore_n (lv' := [(1, .int q1), (0, .ref (ad 86))]) hx hb dX11_allThought_4 rfl hl (by decide) rfl (fun ls hl => ?_)
  refine lv_aload_n hx hb dX11_allThought_5 rfl (lv_at hl 1 rfl) ?_
  refine lv_iconst (v := (-1)) hx hb dX11_allThought_6 (by decide) ?_
  obtain ⟨q2, hq2, hf⟩ := bd_e hf
  refine k_lR (va_runV (C := RX11) (As := [.int (-1)]) (rest := []) ⟨hx, hb, hml, hown, hts⟩ (c_X11_thoughtOf (l := l) (sz := H.size) (p0 := (-1)) hN h86 h89 h90 h92 h93 h94 h95 h96 h97 h98 h99 h100 h101 h102 hq2) (cwV 1 hts gX11_allThought_X11_thoughtOf rfl rfl rfl (by decide +kernel) ⟨Nat.le_of_ble_eq_true rfl, Nat.le_of_ble_eq_true rfl⟩) (preV_of hK hP (by omega) h86 rfl) rfl rfl hl.1 rfl (lv_room (Nat.le_of_ble_eq_true rfl)) dX11_allThought_7 ⟨Nat.le_of_ble_eq_true rfl, Nat.le_of_ble_eq_true rfl⟩) hA hP hS (fun H locs hP hS => ?_)
  refine lv_lstore_n (lv' := [(2, .long q2), (1, .int q1), (0, .ref (ad 86))]) hx hb dX11_allThought_10 rfl hl (by decide) rfl (fun ls hl => ?_)
  refine lv_iconst (v := 0) hx hb dX11_allThought_11 (by decide) ?_
  refine lv_istore (lv' := [(4, .int 0), (2, .long q2), (1, .int q1), (0, .ref (ad 86))]) hx hb dX11_allThought_12 hl (by decide) rfl (fun ls hl => ?_)
  have key14 : ∀ (ko : Int64 → Int32 → Option (Int64)), (∀ (x5 : Int64) (x6 : Int32) (C : Nat → va_E) (H : Heap) (locs : List Loc) (ls : Array Slot), va_P D vwCl (wd N ad C) H → va_S (An s.heap.size) s.heap H locs → C 86 = .inr (11, [.ref (ad 87), .int m_len, .ref (ad 88), .int m_rm, .int m_there, .ref (ad 89), .ref (ad 90), .ref (ad 91), .ref (ad 92), .ref (ad 93), .ref (ad 94), .ref (ad 95), .ref (ad 96), .ref (ad 97), .ref (ad 98), .ref (ad 99), .ref (ad 100), .ref (ad 101), .int m_lift, .int m_blank, .ref (ad 102), .int m_fm, .int m_at, .int m_pl, .int m_end, .ref (ad 103), .ref (ad 104), .ref (ad 105), .ref (ad 106), .ref (ad 107), .ref (ad 108), .int m_seed]) → C 89 = aI g 12 m_down → C 90 = aI g 12 m_min → C 92 = aI g 12 m_gone → C 93 = aI g 12 m_flow → C 94 = aI g 12 m_lik → C 95 = aI g 12 m_str → C 96 = aI g 12 m_from → C 97 = aI g 12 m_to → C 98 = aI g 24 m_rain → C 99 = aI g 4 m_tell → C 100 = aI g 4 m_fy → C 101 = aI g 4 m_fn → C 102 = aI g 50 m_finds → lv_has ls 5 [(0, .ref (ad 86)), (1, .int q1), (2, .long x5), (4, .int x6)] → ko x5 x6 = some rr → W p l e (headSpec wsX11_allThought rmX11_allThought).room s m args below meth c H locs 0 0 QQ (F0 m 49 ls [])) → ∀ (n : Nat) (x3 : Int64) (x4 : Int32) (C : Nat → va_E) (H : Heap) (locs : List Loc) (ls : Array Slot), va_P D vwCl (wd N ad C) H → va_S (An s.heap.size) s.heap H locs → C 86 = .inr (11, [.ref (ad 87), .int m_len, .ref (ad 88), .int m_rm, .int m_there, .ref (ad 89), .ref (ad 90), .ref (ad 91), .ref (ad 92), .ref (ad 93), .ref (ad 94), .ref (ad 95), .ref (ad 96), .ref (ad 97), .ref (ad 98), .ref (ad 99), .ref (ad 100), .ref (ad 101), .int m_lift, .int m_blank, .ref (ad 102), .int m_fm, .int m_at, .int m_pl, .int m_end, .ref (ad 103), .ref (ad 104), .ref (ad 105), .ref (ad 106), .ref (ad 107), .ref (ad 108), .int m_seed]) → C 89 = aI g 12 m_down → C 90 = aI g 12 m_min → C 92 = aI g 12 m_gone → C 93 = aI g 12 m_flow → C 94 = aI g 12 m_lik → C 95 = aI g 12 m_str → C 96 = aI g 12 m_from → C 97 = aI g 12 m_to → C 98 = aI g 24 m_rain → C 99 = aI g 4 m_tell → C 100 = aI g 4 m_fy → C 101 = aI g 4 m_fn → C 102 = aI g 50 m_finds → lv_has ls 5 [(0, .ref (ad 86)), (1, .int q1), (2, .long x3), (4, .int x4)] → LX11_allThought_14 m_down m_min m_gone m_flow m_lik m_str m_from m_to m_rain m_tell m_fy m_fn m_finds m_there m_blank m_fm q1 ko n x3 x4 = some rr → W p l e (headSpec wsX11_allThought rmX11_allThought).room s m args below meth c H locs 0 0 QQ (F0 m 14 ls []) := by
    intro ko hko n
    induction n with
    | zero =>
      intro x3 x4 C H locs ls hP hS h86 h89 h90 h92 h93 h94 h95 h96 h97 h98 h99 h100 h101 h102 hl hf
      rw [LX11_allThought_14_z] at hf
      cases hf
    | succ n ih =>
      intro x3 x4 C H locs ls hP hS h86 h89 h90 h92 h93 h94 h95 h96 h97 h98 h99 h100 h101 h102 hl hf
      rw [LX11_allThought_14_s] at hf
      refine lv_iload hx hb dX11_allThought_14 (lv_at hl 3 rfl) ?_
      refine lv_bipush (v := 12) hx hb dX11_allThought_16 (by decide) ?_
      refine lv_icmp_ge (tgt := 49) hx hb dX11_allThought_18 (by decide) (fun c7 => ?_) (fun c7 => ?_)
      · have hf := it_e c7 hf
        exact hko x3 x4 C H locs ls hP hS h86 h89 h90 h92 h93 h94 h95 h96 h97 h98 h99 h100 h101 h102 (lv_sub hl [0, 1, 2, 3] rfl) hf
      · have hf := ie_e c7 hf
        refine lv_lload_n hx hb dX11_allThought_21 rfl (lv_at hl 2 rfl) ?_
        refine lv_iload_n hx hb dX11_allThought_22 rfl (lv_at hl 1 rfl) ?_
        refine lv_iload hx hb dX11_allThought_23 (lv_at hl 3 rfl) ?_
        obtain ⟨q8, hq8, hf⟩ := bd_e hf
        refine k_iR (va_runS (As := [.int q1, .int x4]) (rest := [.long x3]) ⟨hx, hb, hml, hown, hts⟩ (c_X11_has (l := l) (sz := H.size) (p0 := q1) (p1 := x4) hq8) (va_cwS 2 hts gX11_allThought_X11_has rfl rfl rfl (by decide +kernel) ⟨Nat.le_of_ble_eq_true rfl, Nat.le_of_ble_eq_true rfl⟩) preS0 rfl rfl hl.1 rfl (lv_room (Nat.le_of_ble_eq_true rfl)) dX11_allThought_25 ⟨Nat.le_of_ble_eq_true rfl, Nat.le_of_ble_eq_true rfl⟩) hA hP hS (fun H locs hP hS hbz_q8 => ?_)
        obtain ⟨q9, htq9, hf⟩ := bd_e hf
        have jnq9 : ∀ (C : Nat → va_E) (H : Heap) (locs : List Loc) (ls : Array Slot), va_P D vwCl (wd N ad C) H → va_S (An s.heap.size) s.heap H locs → C 86 = .inr (11, [.ref (ad 87), .int m_len, .ref (ad 88), .int m_rm, .int m_there, .ref (ad 89), .ref (ad 90), .ref (ad 91), .ref (ad 92), .ref (ad 93), .ref (ad 94), .ref (ad 95), .ref (ad 96), .ref (ad 97), .ref (ad 98), .ref (ad 99), .ref (ad 100), .ref (ad 101), .int m_lift, .int m_blank, .ref (ad 102), .int m_fm, .int m_at, .int m_pl, .int m_end, .ref (ad 103), .ref (ad 104), .ref (ad 105), .ref (ad 106), .ref (ad 107), .ref (ad 108), .int m_seed]) → C 89 = aI g 12 m_down → C 90 = aI g 12 m_min → C 92 = aI g 12 m_gone → C 93 = aI g 12 m_flow → C 94 = aI g 12 m_lik → C 95 = aI g 12 m_str → C 96 = aI g 12 m_from → C 97 = aI g 12 m_to → C 98 = aI g 24 m_rain → C 99 = aI g 4 m_tell → C 100 = aI g 4 m_fy → C 101 = aI g 4 m_fn → C 102 = aI g 50 m_finds → lv_has ls 5 [(0, .ref (ad 86)), (1, .int q1), (2, .long x3), (4, .int x4)] → W p l e (headSpec wsX11_allThought rmX11_allThought).room s m args below meth c H locs 0 0 QQ (F0 m 41 ls [.long q9, .long x3]) := by
          intro C H locs ls hP hS h86 h89 h90 h92 h93 h94 h95 h96 h97 h98 h99 h100 h101 h102 hl
          refine lv_ladd hx hb dX11_allThought_41 ?_
          obtain ⟨x10, ex10, hf⟩ := lt_e hf
          refine tp_l ex10 ?_
          refine lv_lstore_n (lv' := [(2, .long x10), (0, .ref (ad 86)), (1, .int q1), (4, .int x4)]) hx hb dX11_allThought_42 rfl hl (by decide) rfl (fun ls hl => ?_)
          obtain ⟨x11, ex11, hf⟩ := lt_e hf
          refine lv_iinc (v := x11) (lv' := [(4, .int x11), (2, .long x10), (0, .ref (ad 86)), (1, .int q1)]) hx hb dX11_allThought_43 hl (k := 3) rfl (by rw [ex11]; rfl) (by decide) rfl (fun ls hl => ?_)
          refine lv_goto (tgt := 14) hx hb dX11_allThought_46 (by decide) ?_
          exact ih x10 x11 C H locs ls hP hS h86 h89 h90 h92 h93 h94 h95 h96 h97 h98 h99 h100 h101 h102 (lv_sub hl [2, 3, 1, 0] rfl) hf
        clear hf
        have hf := htq9
        refine lv_if_eq (tgt := 40) hx hb dX11_allThought_28 (by decide) (fun c12 => ?_) (fun c12 => ?_)
        · have hf := it_e c12 hf
          refine lv_lconst (v := 0) hx hb dX11_allThought_40 (by decide) ?_
          obtain rfl := Option.some.inj hf
          exact jnq9 C H locs ls hP hS h86 h89 h90 h92 h93 h94 h95 h96 h97 h98 h99 h100 h101 h102 (lv_sub hl [0, 1, 2, 3] rfl)
        · have hf := ie_e c12 hf
          refine lv_aload_n hx hb dX11_allThought_31 rfl (lv_at hl 0 rfl) ?_
          refine lv_iload hx hb dX11_allThought_32 (lv_at hl 3 rfl) ?_
          obtain ⟨q13, hq13, hf⟩ := bd_e hf
          refine k_lR (va_runV (C := RX11) (As := [.int x4]) (rest := [.long x3]) ⟨hx, hb, hml, hown, hts⟩ (c_X11_thoughtOf (l := l) (sz := H.size) (p0 := x4) hN h86 h89 h90 h92 h93 h94 h95 h96 h97 h98 h99 h100 h101 h102 hq13) (cwV 1 hts gX11_allThought_X11_thoughtOf rfl rfl rfl (by decide +kernel) ⟨Nat.le_of_ble_eq_true rfl, Nat.le_of_ble_eq_true rfl⟩) (preV_of hK hP (by omega) h86 rfl) rfl rfl hl.1 rfl (lv_room (Nat.le_of_ble_eq_true rfl)) dX11_allThought_34 ⟨Nat.le_of_ble_eq_true rfl, Nat.le_of_ble_eq_true rfl⟩) hA hP hS (fun H locs hP hS => ?_)
          refine lv_goto (tgt := 41) hx hb dX11_allThought_37 (by decide) ?_
          obtain rfl := Option.some.inj hf
          exact jnq9 C H locs ls hP hS h86 h89 h90 h92 h93 h94 h95 h96 h97 h98 h99 h100 h101 h102 (lv_sub hl [0, 1, 2, 3] rfl)
  refine key14 _ (fun x5 x6 C H locs ls hP hS h86 h89 h90 h92 h93 h94 h95 h96 h97 h98 h99 h100 h101 h102 hl hf => ?_) FU q2 0 C H locs ls hP hS h86 h89 h90 h92 h93 h94 h95 h96 h97 h98 h99 h100 h101 h102 (lv_sub hl [3, 2, 1, 0] rfl) hf
  refine lv_lload_n hx hb dX11_allThought_49 rfl (lv_at hl 2 rfl) ?_
  obtain rfl := Option.some.inj hf
  rw [← hQ]
  exact e_lR hx hb hr rfl hS hlocks dX11_allThought_50

def LX11_divisor_6  (ko : Int64 → Int64 → Option (Int64)) : Nat → Int64 → Int64 → Option (Int64)
  | 0, _, _ => none
  | n + 1, x1, x2 =>
    if (lg_cmp x2 (0 : Int64)) = 0 then
      ko x1 x2
    else
      nzl (x2) <|
      lt ((x1 - x1 / x2 * x2) : Int64) fun x7 =>
      LX11_divisor_6 ko n x2 x7
theorem LX11_divisor_6_z  (ko : Int64 → Int64 → Option (Int64)) (x1 : Int64) (x2 : Int64) : LX11_divisor_6  ko 0 x1 x2 = none := rfl
theorem LX11_divisor_6_s  (ko : Int64 → Int64 → Option (Int64)) (n : Nat) (x1 : Int64) (x2 : Int64) : LX11_divisor_6  ko (n + 1) x1 x2 =
    if (lg_cmp x2 (0 : Int64)) = 0 then
      ko x1 x2
    else
      nzl (x2) <|
      lt ((x1 - x1 / x2 * x2) : Int64) fun x7 =>
      LX11_divisor_6 ko n x2 x7 := rfl
def f_X11_divisor (p0 : Int64) (p1 : Int64) : Option (Int64) :=
  LX11_divisor_6  (fun x3 x4 =>
    some (x3)) FU p0 p1
abbrev rmX11_divisor : Room := { frames := 0, cells := 0, slots := 0, locals := 0 }
set_option maxHeartbeats 4000000 in
set_option maxRecDepth 100000 in
theorem c_X11_divisor {l : Launch} {sz : Nat}  {p0 : Int64} {p1 : Int64} {rr : Int64} (hf : f_X11_divisor p0 p1 = some rr) : Met l yX11_divisor wsX11_divisor rmX11_divisor (PcS sz [.long p0, .long p1]) (QlR sz rr) 0 0 (An sz) := by
  refine Met.ofW (cc := cX11_divisor) (maxL := 10) (ret := (some .long)) (by decide) rfl ?_
  intro p e s m args below meth c s₁ B hml hv
  obtain ⟨hav, hsz⟩ := hv
  subst hsz
  have hx := B.exec
  have hb := B.bytes
  have hr := B.returns
  have hts := atoms_spec (ws := wsX11_divisor) B.pre
  have hown : s.vm.findClass RX11 = some m.cls := findClass_of_methodNamed B.named
  have hlocks := B.notSynchronized
  generalize hQ : MQ below (QlR s.heap.size rr) args s 0 0 (An s.heap.size) = QQ
  have hS : va_S (An s.heap.size) s.heap s.heap [] := va_S.rf
  have hA : ∀ q, s.heap.size ≤ q → (An s.heap.size) q := fun q h => h
  have hE := lg_entry_eq m [.long p0, .long p1] 10
  rw [← hav] at hE
  rw [hE]
  have hl := lv_entry [.long p0, .long p1] (n := 10) (Nat.le_of_ble_eq_true rfl)
  generalize (lg_sl [.long p0, .long p1] ++ List.replicate (10 - (lg_sl [.long p0, .long p1]).length) Slot.unset).toArray = ls at hl ⊢
  have hl : lv_has ls 10 [(0, .long p0), (2, .long p1)] := hl
  clear hE
  unfold f_X11_divisor at hf
  suffices hgo : ∀ (H : Heap) (locs : List Loc), va_S (An s.heap.size) s.heap H locs → W p l e (headSpec wsX11_divisor rmX11_divisor).room s m args below meth c H locs 0 0 QQ (F0 m 0 ls []) from hgo s.heap [] hS
  clear hS
  intro H locs hS
  refine lv_lload_n hx hb dX11_divisor_0 rfl (lv_at hl 0 rfl) ?_
  refine lv_lstore (lv' := [(4, .long p0), (0, .long p0), (2, .long p1)]) hx hb dX11_divisor_1 hl (by decide) rfl (fun ls hl => ?_)
  refine lv_lload_n hx hb dX11_divisor_3 rfl (lv_at hl 2 rfl) ?_
  refine lv_lstore (lv' := [(6, .long p1), (4, .long p0), (0, .long p0), (2, .long p1)]) hx hb dX11_divisor_4 hl (by decide) rfl (fun ls hl => ?_)
  have key6 : ∀ (ko : Int64 → Int64 → Option (Int64)), (∀ (x3 : Int64) (x4 : Int64) (H : Heap) (locs : List Loc) (ls : Array Slot), va_S (An s.heap.size) s.heap H locs → lv_has ls 10 [(0, .long p0), (2, .long p1), (4, .long x3), (6, .long x4)] → ko x3 x4 = some rr → W p l e (headSpec wsX11_divisor rmX11_divisor).room s m args below meth c H locs 0 0 QQ (F0 m 31 ls [])) → ∀ (n : Nat) (x1 : Int64) (x2 : Int64) (H : Heap) (locs : List Loc) (ls : Array Slot), va_S (An s.heap.size) s.heap H locs → lv_has ls 10 [(0, .long p0), (2, .long p1), (4, .long x1), (6, .long x2)] → LX11_divisor_6  ko n x1 x2 = some rr → W p l e (headSpec wsX11_divisor rmX11_divisor).room s m args below meth c H locs 0 0 QQ (F0 m 6 ls []) := by
    intro ko hko n
    induction n with
    | zero =>
      intro x1 x2 H locs ls hS hl hf
      rw [LX11_divisor_6_z] at hf
      cases hf
    | succ n ih =>
      intro x1 x2 H locs ls hS hl hf
      rw [LX11_divisor_6_s] at hf
      refine lv_lload hx hb dX11_divisor_6 (lv_at hl 3 rfl) ?_
      refine lv_lconst (v := 0) hx hb dX11_divisor_8 (by decide) ?_
      refine W.lcmp hx hb dX11_divisor_9 ?_
      refine lv_if_eq (tgt := 31) hx hb dX11_divisor_10 (by decide) (fun c5 => ?_) (fun c5 => ?_)
      · have hf := it_e c5 hf
        exact hko x1 x2 H locs ls hS (lv_sub hl [0, 1, 2, 3] rfl) hf
      · have hf := ie_e c5 hf
        refine lv_lload hx hb dX11_divisor_13 (lv_at hl 2 rfl) ?_
        refine lv_lload hx hb dX11_divisor_15 (lv_at hl 3 rfl) ?_
        obtain ⟨z6, hf⟩ := nzl_e hf
        refine lv_lrem hx hb dX11_divisor_17 z6 ?_
        obtain ⟨x7, ex7, hf⟩ := lt_e hf
        refine tp_l ex7 ?_
        refine lv_lstore (lv' := [(8, .long x7), (0, .long p0), (2, .long p1), (4, .long x1), (6, .long x2)]) hx hb dX11_divisor_18 hl (by decide) rfl (fun ls hl => ?_)
        refine lv_lload hx hb dX11_divisor_20 (lv_at hl 4 rfl) ?_
        refine lv_lstore (lv' := [(4, .long x2), (8, .long x7), (0, .long p0), (2, .long p1), (6, .long x2)]) hx hb dX11_divisor_22 hl (by decide) rfl (fun ls hl => ?_)
        refine lv_lload hx hb dX11_divisor_24 (lv_at hl 1 rfl) ?_
        refine lv_lstore (lv' := [(6, .long x7), (4, .long x2), (8, .long x7), (0, .long p0), (2, .long p1)]) hx hb dX11_divisor_26 hl (by decide) rfl (fun ls hl => ?_)
        refine lv_goto (tgt := 6) hx hb dX11_divisor_28 (by decide) ?_
        exact ih x2 x7 H locs ls hS (lv_sub hl [3, 4, 1, 0] rfl) hf
  refine key6 _ (fun x3 x4 H locs ls hS hl hf => ?_) FU p0 p1 H locs ls hS (lv_sub hl [2, 3, 1, 0] rfl) hf
  refine lv_lload hx hb dX11_divisor_31 (lv_at hl 2 rfl) ?_
  obtain rfl := Option.some.inj hf
  rw [← hQ]
  exact e_lR hx hb hr rfl hS hlocks dX11_divisor_33

def f_X11_lowest (p0 : Int64) (p1 : Int64) (p2 : Int32) : Option (Int64) :=
  (f_X11_divisor p0 p1).bind fun q1 =>
  if p2 = 0 then
    nzl (q1) <|
    some ((p0 / q1))
  else
    nzl (q1) <|
    some ((p1 / q1))
abbrev rmX11_lowest : Room := { frames := 1, cells := 0, slots := 0, locals := 29 }
set_option maxHeartbeats 4000000 in
set_option maxRecDepth 100000 in
theorem c_X11_lowest {l : Launch} {sz : Nat}  {p0 : Int64} {p1 : Int64} {p2 : Int32} {rr : Int64} (hf : f_X11_lowest p0 p1 p2 = some rr) : Met l yX11_lowest wsX11_lowest rmX11_lowest (PcS sz [.long p0, .long p1, .int p2]) (QlR sz rr) 0 0 (An sz) := by
  refine Met.ofW (cc := cX11_lowest) (maxL := 7) (ret := (some .long)) (by decide) rfl ?_
  intro p e s m args below meth c s₁ B hml hv
  obtain ⟨hav, hsz⟩ := hv
  subst hsz
  have hx := B.exec
  have hb := B.bytes
  have hr := B.returns
  have hts := atoms_spec (ws := wsX11_lowest) B.pre
  have hown : s.vm.findClass RX11 = some m.cls := findClass_of_methodNamed B.named
  have hlocks := B.notSynchronized
  generalize hQ : MQ below (QlR s.heap.size rr) args s 0 0 (An s.heap.size) = QQ
  have hS : va_S (An s.heap.size) s.heap s.heap [] := va_S.rf
  have hA : ∀ q, s.heap.size ≤ q → (An s.heap.size) q := fun q h => h
  have hE := lg_entry_eq m [.long p0, .long p1, .int p2] 7
  rw [← hav] at hE
  rw [hE]
  have hl := lv_entry [.long p0, .long p1, .int p2] (n := 7) (Nat.le_of_ble_eq_true rfl)
  generalize (lg_sl [.long p0, .long p1, .int p2] ++ List.replicate (7 - (lg_sl [.long p0, .long p1, .int p2]).length) Slot.unset).toArray = ls at hl ⊢
  have hl : lv_has ls 7 [(0, .long p0), (2, .long p1), (4, .int p2)] := hl
  clear hE
  unfold f_X11_lowest at hf
  suffices hgo : ∀ (H : Heap) (locs : List Loc), va_S (An s.heap.size) s.heap H locs → W p l e (headSpec wsX11_lowest rmX11_lowest).room s m args below meth c H locs 0 0 QQ (F0 m 0 ls []) from hgo s.heap [] hS
  clear hS
  intro H locs hS
  refine lv_lload_n hx hb dX11_lowest_0 rfl (lv_at hl 0 rfl) ?_
  refine lv_lload_n hx hb dX11_lowest_1 rfl (lv_at hl 1 rfl) ?_
  obtain ⟨q1, hq1, hf⟩ := bd_e hf
  refine k_l0 (va_runS (As := [.long p0, .long p1]) (rest := []) ⟨hx, hb, hml, hown, hts⟩ (c_X11_divisor (l := l) (sz := H.size) (p0 := p0) (p1 := p1) hq1) (va_cwS 2 hts gX11_lowest_X11_divisor rfl rfl rfl (by decide +kernel) ⟨Nat.le_of_ble_eq_true rfl, Nat.le_of_ble_eq_true rfl⟩) preS0 rfl rfl hl.1 rfl (lv_room (Nat.le_of_ble_eq_true rfl)) dX11_lowest_2 ⟨Nat.le_of_ble_eq_true rfl, Nat.le_of_ble_eq_true rfl⟩) hA hS (fun H locs hS => ?_)
  refine lv_lstore (lv' := [(5, .long q1), (0, .long p0), (2, .long p1), (4, .int p2)]) hx hb dX11_lowest_5 hl (by decide) rfl (fun ls hl => ?_)
  refine lv_iload hx hb dX11_lowest_7 (lv_at hl 3 rfl) ?_
  refine lv_if_ne (tgt := 19) hx hb dX11_lowest_9 (by decide) (fun c2 => ?_) (fun c2 => ?_)
  · have hf := ie_e c2 hf
    refine lv_lload_n hx hb dX11_lowest_19 rfl (lv_at hl 2 rfl) ?_
    refine lv_lload hx hb dX11_lowest_20 (lv_at hl 0 rfl) ?_
    obtain ⟨z3, hf⟩ := nzl_e hf
    refine lv_ldiv hx hb dX11_lowest_22 z3 ?_
    obtain rfl := Option.some.inj hf
    rw [← hQ]
    exact e_lR hx hb hr rfl hS hlocks dX11_lowest_23
  · have hf := it_e c2 hf
    refine lv_lload_n hx hb dX11_lowest_12 rfl (lv_at hl 1 rfl) ?_
    refine lv_lload hx hb dX11_lowest_13 (lv_at hl 0 rfl) ?_
    obtain ⟨z4, hf⟩ := nzl_e hf
    refine lv_ldiv hx hb dX11_lowest_15 z4 ?_
    refine lv_goto (tgt := 23) hx hb dX11_lowest_16 (by decide) ?_
    obtain rfl := Option.some.inj hf
    rw [← hQ]
    exact e_lR hx hb hr rfl hS hlocks dX11_lowest_23

def f_X11_isPart (p0 : Int32) : Option (Int32) :=
  (f_X11_in (Int32.toInt64 p0) (0 : Int64) (1 : Int64)).bind fun q1 =>
  some (q1)
abbrev rmX11_isPart : Room := { frames := 1, cells := 0, slots := 0, locals := 25 }
set_option maxHeartbeats 4000000 in
set_option maxRecDepth 100000 in
theorem c_X11_isPart {l : Launch} {sz : Nat}  {p0 : Int32} {rr : Int32} (hf : f_X11_isPart p0 = some rr) : Met l yX11_isPart wsX11_isPart rmX11_isPart (PcS sz [.int p0]) (QiR sz bz rr) 0 0 (An sz) := by
  refine Met.ofW (cc := cX11_isPart) (maxL := 1) (ret := (some .boolean)) (by decide) rfl ?_
  intro p e s m args below meth c s₁ B hml hv
  obtain ⟨hav, hsz⟩ := hv
  subst hsz
  have hx := B.exec
  have hb := B.bytes
  have hr := B.returns
  have hts := atoms_spec (ws := wsX11_isPart) B.pre
  have hown : s.vm.findClass RX11 = some m.cls := findClass_of_methodNamed B.named
  have hlocks := B.notSynchronized
  generalize hQ : MQ below (QiR s.heap.size bz rr) args s 0 0 (An s.heap.size) = QQ
  have hS : va_S (An s.heap.size) s.heap s.heap [] := va_S.rf
  have hA : ∀ q, s.heap.size ≤ q → (An s.heap.size) q := fun q h => h
  have hE := lg_entry_eq m [.int p0] 1
  rw [← hav] at hE
  rw [hE]
  have hl := lv_entry [.int p0] (n := 1) (Nat.le_of_ble_eq_true rfl)
  generalize (lg_sl [.int p0] ++ List.replicate (1 - (lg_sl [.int p0]).length) Slot.unset).toArray = ls at hl ⊢
  have hl : lv_has ls 1 [(0, .int p0)] := hl
  clear hE
  unfold f_X11_isPart at hf
  suffices hgo : ∀ (H : Heap) (locs : List Loc), va_S (An s.heap.size) s.heap H locs → W p l e (headSpec wsX11_isPart rmX11_isPart).room s m args below meth c H locs 0 0 QQ (F0 m 0 ls []) from hgo s.heap [] hS
  clear hS
  intro H locs hS
  refine lv_iload_n hx hb dX11_isPart_0 rfl (lv_at hl 0 rfl) ?_
  refine lv_i2l hx hb dX11_isPart_1 rfl ?_
  refine lv_lconst (v := 0) hx hb dX11_isPart_2 (by decide) ?_
  refine lv_lconst (v := 1) hx hb dX11_isPart_3 (by decide) ?_
  obtain ⟨q1, hq1, hf⟩ := bd_e hf
  refine k_i0 (va_runS (As := [.long (Int32.toInt64 p0), .long (0 : Int64), .long (1 : Int64)]) (rest := []) ⟨hx, hb, hml, hown, hts⟩ (c_X11_in (l := l) (sz := H.size) (p0 := (Int32.toInt64 p0)) (p1 := (0 : Int64)) (p2 := (1 : Int64)) hq1) (va_cwS 3 hts gX11_isPart_X11_in rfl rfl rfl (by decide +kernel) ⟨Nat.le_of_ble_eq_true rfl, Nat.le_of_ble_eq_true rfl⟩) preS0 rfl rfl hl.1 rfl (lv_room (Nat.le_of_ble_eq_true rfl)) dX11_isPart_4 ⟨Nat.le_of_ble_eq_true rfl, Nat.le_of_ble_eq_true rfl⟩) hA hS (fun H locs hS hbz_q1 => ?_)
  obtain rfl := Option.some.inj hf
  rw [← hQ]
  exact e_zR hx hb hr rfl hbz_q1 hS hlocks dX11_isPart_7

def f_X11_isSource (p0 : Int32) (m_lik : Nat → Int32) (m_there : Int32) : Option (Int32) :=
  (f_X11_in (Int32.toInt64 p0) (0 : Int64) (11 : Int64)).bind fun q1 =>
  if q1 = 0 then
    some (0)
  else
    (f_X11_sources m_lik m_there).bind fun q3 =>
    (f_X11_has q3 p0).bind fun q4 =>
    if q4 = 0 then
      some (0)
    else
      some (1)
abbrev rmX11_isSource : Room := { frames := 2, cells := 0, slots := 0, locals := 43 }
set_option maxHeartbeats 4000000 in
set_option maxRecDepth 100000 in
theorem c_X11_isSource {l : Launch} {D : va_G} {g : Nat → ClassId} {N : Nat} {ad : Nat → Nat} {C : Nat → va_E} {sz : Nat} {m_len : Int32} {m_rm : Int32} {m_there : Int32} {m_lift : Int32} {m_blank : Int32} {m_fm : Int32} {m_at : Int32} {m_pl : Int32} {m_end : Int32} {m_seed : Int32} {m_lik : Nat → Int32} {p0 : Int32} {rr : Int32} (hN : 109 ≤ N) (h86 : C 86 = .inr (11, [.ref (ad 87), .int m_len, .ref (ad 88), .int m_rm, .int m_there, .ref (ad 89), .ref (ad 90), .ref (ad 91), .ref (ad 92), .ref (ad 93), .ref (ad 94), .ref (ad 95), .ref (ad 96), .ref (ad 97), .ref (ad 98), .ref (ad 99), .ref (ad 100), .ref (ad 101), .int m_lift, .int m_blank, .ref (ad 102), .int m_fm, .int m_at, .int m_pl, .int m_end, .ref (ad 103), .ref (ad 104), .ref (ad 105), .ref (ad 106), .ref (ad 107), .ref (ad 108), .int m_seed])) (h94 : C 94 = aI g 12 m_lik) (hf : f_X11_isSource p0 m_lik m_there = some rr) : Met l yX11_isSource wsX11_isSource rmX11_isSource (PcW D g N ad C sz [.ref (ad 86), .int p0]) (QiR sz bz rr) 0 0 (An sz) := by
  refine Met.ofW (cc := cX11_isSource) (maxL := 2) (ret := (some .boolean)) (by decide) rfl ?_
  intro p e s m args below meth c s₁ B hml hv
  obtain ⟨hav, hsz, hK, hP⟩ := hv
  subst hsz
  have hx := B.exec
  have hb := B.bytes
  have hr := B.returns
  have hts := atoms_spec (ws := wsX11_isSource) B.pre
  have hown : s.vm.findClass RX11 = some m.cls := findClass_of_methodNamed B.named
  have hlocks := B.notSynchronized
  generalize hQ : MQ below (QiR s.heap.size bz rr) args s 0 0 (An s.heap.size) = QQ
  have hS : va_S (An s.heap.size) s.heap s.heap [] := va_S.rf
  have hA : ∀ q, s.heap.size ≤ q → (An s.heap.size) q := fun q h => h
  have k0 := hts (.constantLong RX11 81 (11)) (List.mem_of_getElem? (i := 1) rfl)
  have hE := lg_entry_eq m [.ref (ad 86), .int p0] 2
  rw [← hav] at hE
  rw [hE]
  have hl := lv_entry [.ref (ad 86), .int p0] (n := 2) (Nat.le_of_ble_eq_true rfl)
  generalize (lg_sl [.ref (ad 86), .int p0] ++ List.replicate (2 - (lg_sl [.ref (ad 86), .int p0]).length) Slot.unset).toArray = ls at hl ⊢
  have hl : lv_has ls 2 [(0, .ref (ad 86)), (1, .int p0)] := hl
  clear hE
  unfold f_X11_isSource at hf
  suffices hgo : ∀ (H : Heap) (locs : List Loc), va_P D vwCl (wd N ad C) H → va_S (An s.heap.size) s.heap H locs → W p l e (headSpec wsX11_isSource rmX11_isSource).room s m args below meth c H locs 0 0 QQ (F0 m 0 ls []) from hgo s.heap [] hP hS
  clear hS hP
  intro H locs hP hS
  refine lv_iload_n hx hb dX11_isSource_0 rfl (lv_at hl 1 rfl) ?_
  refine lv_i2l hx hb dX11_isSource_1 rfl ?_
  refine lv_lconst (v := 0) hx hb dX11_isSource_2 (by decide) ?_
  refine lv_ldc2 (own := RX11) hx hb hown k0 dX11_isSource_3 ?_
  obtain ⟨q1, hq1, hf⟩ := bd_e hf
  refine k_iR (va_runS (As := [.long (Int32.toInt64 p0), .long (0 : Int64), .long (11 : Int64)]) (rest := []) ⟨hx, hb, hml, hown, hts⟩ (c_X11_in (l := l) (sz := H.size) (p0 := (Int32.toInt64 p0)) (p1 := (0 : Int64)) (p2 := (11 : Int64)) hq1) (va_cwS 3 hts gX11_isSource_X11_in rfl rfl rfl (by decide +kernel) ⟨Nat.le_of_ble_eq_true rfl, Nat.le_of_ble_eq_true rfl⟩) preS0 rfl rfl hl.1 rfl (lv_room (Nat.le_of_ble_eq_true rfl)) dX11_isSource_6 ⟨Nat.le_of_ble_eq_true rfl, Nat.le_of_ble_eq_true rfl⟩) hA hP hS (fun H locs hP hS hbz_q1 => ?_)
  refine lv_if_eq (tgt := 27) hx hb dX11_isSource_9 (by decide) (fun c2 => ?_) (fun c2 => ?_)
  · have hf := it_e c2 hf
    refine lv_iconst (v := 0) hx hb dX11_isSource_27 (by decide) ?_
    obtain rfl := Option.some.inj hf
    rw [← hQ]
    exact e_zR hx hb hr rfl bz0 hS hlocks dX11_isSource_28
  · have hf := ie_e c2 hf
    refine lv_aload_n hx hb dX11_isSource_12 rfl (lv_at hl 0 rfl) ?_
    obtain ⟨q3, hq3, hf⟩ := bd_e hf
    refine k_iR (va_runV (C := RX11) (As := []) (rest := []) ⟨hx, hb, hml, hown, hts⟩ (c_X11_sources (l := l) (sz := H.size)  hN h86 h94 hq3) (cwV 0 hts gX11_isSource_X11_sources rfl rfl rfl (by decide +kernel) ⟨Nat.le_of_ble_eq_true rfl, Nat.le_of_ble_eq_true rfl⟩) (preV_of hK hP (by omega) h86 rfl) rfl rfl hl.1 rfl (lv_room (Nat.le_of_ble_eq_true rfl)) dX11_isSource_13 ⟨Nat.le_of_ble_eq_true rfl, Nat.le_of_ble_eq_true rfl⟩) hA hP hS (fun H locs hP hS hbz_q3 => ?_)
    refine lv_iload_n hx hb dX11_isSource_16 rfl (lv_at hl 1 rfl) ?_
    obtain ⟨q4, hq4, hf⟩ := bd_e hf
    refine k_iR (va_runS (As := [.int q3, .int p0]) (rest := []) ⟨hx, hb, hml, hown, hts⟩ (c_X11_has (l := l) (sz := H.size) (p0 := q3) (p1 := p0) hq4) (va_cwS 2 hts gX11_isSource_X11_has rfl rfl rfl (by decide +kernel) ⟨Nat.le_of_ble_eq_true rfl, Nat.le_of_ble_eq_true rfl⟩) preS0 rfl rfl hl.1 rfl (lv_room (Nat.le_of_ble_eq_true rfl)) dX11_isSource_17 ⟨Nat.le_of_ble_eq_true rfl, Nat.le_of_ble_eq_true rfl⟩) hA hP hS (fun H locs hP hS hbz_q4 => ?_)
    refine lv_if_eq (tgt := 27) hx hb dX11_isSource_20 (by decide) (fun c5 => ?_) (fun c5 => ?_)
    · have hf := it_e c5 hf
      refine lv_iconst (v := 0) hx hb dX11_isSource_27 (by decide) ?_
      obtain rfl := Option.some.inj hf
      rw [← hQ]
      exact e_zR hx hb hr rfl bz0 hS hlocks dX11_isSource_28
    · have hf := ie_e c5 hf
      refine lv_iconst (v := 1) hx hb dX11_isSource_23 (by decide) ?_
      refine lv_goto (tgt := 28) hx hb dX11_isSource_24 (by decide) ?_
      obtain rfl := Option.some.inj hf
      rw [← hQ]
      exact e_zR hx hb hr rfl bz1 hS hlocks dX11_isSource_28

def f_X11_chance (p0 : Int32) (p1 : Int32) (m_down : Nat → Int32) (m_min : Nat → Int32) (m_gone : Nat → Int32) (m_flow : Nat → Int32) (m_lik : Nat → Int32) (m_str : Nat → Int32) (m_from : Nat → Int32) (m_to : Nat → Int32) (m_rain : Nat → Int32) (m_tell : Nat → Int32) (m_fy : Nat → Int32) (m_fn : Nat → Int32) (m_finds : Nat → Int32) (m_there : Int32) (m_blank : Int32) (m_fm : Int32) : Option (Int64) :=
  if p0 = (-1) then
    (f_X11_isPart p1).bind fun q2 =>
    if q2 = 0 then
      some ((-3 : Int64))
    else
      (f_X11_allThought m_down m_min m_gone m_flow m_lik m_str m_from m_to m_rain m_tell m_fy m_fn m_finds m_there m_blank m_fm).bind fun q4 =>
      if (lg_cmp q4 (0 : Int64)) = 0 then
        some ((-4 : Int64))
      else
        (f_X11_thoughtOf p0 m_down m_min m_gone m_flow m_lik m_str m_from m_to m_rain m_tell m_fy m_fn m_finds m_there m_blank m_fm).bind fun q6 =>
        (f_X11_lowest q6 q4 p1).bind fun q7 =>
        some (q7)
  else
    (f_X11_isSource p0 m_lik m_there).bind fun q8 =>
    if q8 = 0 then
      some ((-2 : Int64))
    else
      (f_X11_isPart p1).bind fun q10 =>
      if q10 = 0 then
        some ((-3 : Int64))
      else
        (f_X11_allThought m_down m_min m_gone m_flow m_lik m_str m_from m_to m_rain m_tell m_fy m_fn m_finds m_there m_blank m_fm).bind fun q12 =>
        if (lg_cmp q12 (0 : Int64)) = 0 then
          some ((-4 : Int64))
        else
          (f_X11_thoughtOf p0 m_down m_min m_gone m_flow m_lik m_str m_from m_to m_rain m_tell m_fy m_fn m_finds m_there m_blank m_fm).bind fun q14 =>
          (f_X11_lowest q14 q12 p1).bind fun q15 =>
          some (q15)
abbrev rmX11_chance : Room := { frames := 8, cells := 0, slots := 0, locals := 199 }
set_option maxHeartbeats 4000000 in
set_option maxRecDepth 100000 in
theorem c_X11_chance {l : Launch} {D : va_G} {g : Nat → ClassId} {N : Nat} {ad : Nat → Nat} {C : Nat → va_E} {sz : Nat} {m_len : Int32} {m_rm : Int32} {m_there : Int32} {m_lift : Int32} {m_blank : Int32} {m_fm : Int32} {m_at : Int32} {m_pl : Int32} {m_end : Int32} {m_seed : Int32} {m_down : Nat → Int32} {m_min : Nat → Int32} {m_gone : Nat → Int32} {m_flow : Nat → Int32} {m_lik : Nat → Int32} {m_str : Nat → Int32} {m_from : Nat → Int32} {m_to : Nat → Int32} {m_rain : Nat → Int32} {m_tell : Nat → Int32} {m_fy : Nat → Int32} {m_fn : Nat → Int32} {m_finds : Nat → Int32} {p0 : Int32} {p1 : Int32} {rr : Int64} (hN : 109 ≤ N) (h86 : C 86 = .inr (11, [.ref (ad 87), .int m_len, .ref (ad 88), .int m_rm, .int m_there, .ref (ad 89), .ref (ad 90), .ref (ad 91), .ref (ad 92), .ref (ad 93), .ref (ad 94), .ref (ad 95), .ref (ad 96), .ref (ad 97), .ref (ad 98), .ref (ad 99), .ref (ad 100), .ref (ad 101), .int m_lift, .int m_blank, .ref (ad 102), .int m_fm, .int m_at, .int m_pl, .int m_end, .ref (ad 103), .ref (ad 104), .ref (ad 105), .ref (ad 106), .ref (ad 107), .ref (ad 108), .int m_seed])) (h89 : C 89 = aI g 12 m_down) (h90 : C 90 = aI g 12 m_min) (h92 : C 92 = aI g 12 m_gone) (h93 : C 93 = aI g 12 m_flow) (h94 : C 94 = aI g 12 m_lik) (h95 : C 95 = aI g 12 m_str) (h96 : C 96 = aI g 12 m_from) (h97 : C 97 = aI g 12 m_to) (h98 : C 98 = aI g 24 m_rain) (h99 : C 99 = aI g 4 m_tell) (h100 : C 100 = aI g 4 m_fy) (h101 : C 101 = aI g 4 m_fn) (h102 : C 102 = aI g 50 m_finds) (hf : f_X11_chance p0 p1 m_down m_min m_gone m_flow m_lik m_str m_from m_to m_rain m_tell m_fy m_fn m_finds m_there m_blank m_fm = some rr) : Met l yX11_chance wsX11_chance rmX11_chance (PcW D g N ad C sz [.ref (ad 86), .int p0, .int p1]) (QlR sz rr) 0 0 (An sz) := by
  refine Met.ofW (cc := cX11_chance) (maxL := 5) (ret := (some .long)) (by decide) rfl ?_
  intro p e s m args below meth c s₁ B hml hv
  obtain ⟨hav, hsz, hK, hP⟩ := hv
  subst hsz
  have hx := B.exec
  have hb := B.bytes
  have hr := B.returns
  have hts := atoms_spec (ws := wsX11_chance) B.pre
  have hown : s.vm.findClass RX11 = some m.cls := findClass_of_methodNamed B.named
  have hlocks := B.notSynchronized
  generalize hQ : MQ below (QlR s.heap.size rr) args s 0 0 (An s.heap.size) = QQ
  have hS : va_S (An s.heap.size) s.heap s.heap [] := va_S.rf
  have hA : ∀ q, s.heap.size ≤ q → (An s.heap.size) q := fun q h => h
  have k0 := hts (.constantLong RX11 243 (-4)) (List.mem_of_getElem? (i := 3) rfl)
  have k1 := hts (.constantLong RX11 237 (-3)) (List.mem_of_getElem? (i := 2) rfl)
  have k2 := hts (.constantLong RX11 232 (-2)) (List.mem_of_getElem? (i := 1) rfl)
  have hE := lg_entry_eq m [.ref (ad 86), .int p0, .int p1] 5
  rw [← hav] at hE
  rw [hE]
  have hl := lv_entry [.ref (ad 86), .int p0, .int p1] (n := 5) (Nat.le_of_ble_eq_true rfl)
  generalize (lg_sl [.ref (ad 86), .int p0, .int p1] ++ List.replicate (5 - (lg_sl [.ref (ad 86), .int p0, .int p1]).length) Slot.unset).toArray = ls at hl ⊢
  have hl : lv_has ls 5 [(0, .ref (ad 86)), (1, .int p0), (2, .int p1)] := hl
  clear hE
  unfold f_X11_chance at hf
  suffices hgo : ∀ (H : Heap) (locs : List Loc), va_P D vwCl (wd N ad C) H → va_S (An s.heap.size) s.heap H locs → W p l e (headSpec wsX11_chance rmX11_chance).room s m args below meth c H locs 0 0 QQ (F0 m 0 ls []) from hgo s.heap [] hP hS
  clear hS hP
  intro H locs hP hS
  refine lv_iload_n hx hb dX11_chance_0 rfl (lv_at hl 1 rfl) ?_
  refine lv_iconst (v := (-1)) hx hb dX11_chance_1 (by decide) ?_
  refine lv_icmp_eq (tgt := 17) hx hb dX11_chance_2 (by decide) (fun c1 => ?_) (fun c1 => ?_)
  · have hf := it_e c1 hf
    refine lv_iload_n hx hb dX11_chance_17 rfl (lv_at hl 2 rfl) ?_
    obtain ⟨q2, hq2, hf⟩ := bd_e hf
    refine k_iR (va_runS (As := [.int p1]) (rest := []) ⟨hx, hb, hml, hown, hts⟩ (c_X11_isPart (l := l) (sz := H.size) (p0 := p1) hq2) (va_cwS 1 hts gX11_chance_X11_isPart rfl rfl rfl (by decide +kernel) ⟨Nat.le_of_ble_eq_true rfl, Nat.le_of_ble_eq_true rfl⟩) preS0 rfl rfl hl.1 rfl (lv_room (Nat.le_of_ble_eq_true rfl)) dX11_chance_18 ⟨Nat.le_of_ble_eq_true rfl, Nat.le_of_ble_eq_true rfl⟩) hA hP hS (fun H locs hP hS hbz_q2 => ?_)
    refine lv_if_ne (tgt := 28) hx hb dX11_chance_21 (by decide) (fun c3 => ?_) (fun c3 => ?_)
    · have hf := ie_e c3 hf
      refine lv_aload_n hx hb dX11_chance_28 rfl (lv_at hl 0 rfl) ?_
      obtain ⟨q4, hq4, hf⟩ := bd_e hf
      refine k_lR (va_runV (C := RX11) (As := []) (rest := []) ⟨hx, hb, hml, hown, hts⟩ (c_X11_allThought (l := l) (sz := H.size)  hN h86 h89 h90 h92 h93 h94 h95 h96 h97 h98 h99 h100 h101 h102 hq4) (cwV 0 hts gX11_chance_X11_allThought rfl rfl rfl (by decide +kernel) ⟨Nat.le_of_ble_eq_true rfl, Nat.le_of_ble_eq_true rfl⟩) (preV_of hK hP (by omega) h86 rfl) rfl rfl hl.1 rfl (lv_room (Nat.le_of_ble_eq_true rfl)) dX11_chance_29 ⟨Nat.le_of_ble_eq_true rfl, Nat.le_of_ble_eq_true rfl⟩) hA hP hS (fun H locs hP hS => ?_)
      refine lv_lstore_n (lv' := [(3, .long q4), (0, .ref (ad 86)), (1, .int p0), (2, .int p1)]) hx hb dX11_chance_32 rfl hl (by decide) rfl (fun ls hl => ?_)
      refine lv_lload_n hx hb dX11_chance_33 rfl (lv_at hl 0 rfl) ?_
      refine lv_lconst (v := 0) hx hb dX11_chance_34 (by decide) ?_
      refine W.lcmp hx hb dX11_chance_35 ?_
      refine lv_if_ne (tgt := 45) hx hb dX11_chance_36 (by decide) (fun c5 => ?_) (fun c5 => ?_)
      · have hf := ie_e c5 hf
        refine lv_aload_n hx hb dX11_chance_45 rfl (lv_at hl 1 rfl) ?_
        refine lv_iload_n hx hb dX11_chance_46 rfl (lv_at hl 2 rfl) ?_
        obtain ⟨q6, hq6, hf⟩ := bd_e hf
        refine k_lR (va_runV (C := RX11) (As := [.int p0]) (rest := []) ⟨hx, hb, hml, hown, hts⟩ (c_X11_thoughtOf (l := l) (sz := H.size) (p0 := p0) hN h86 h89 h90 h92 h93 h94 h95 h96 h97 h98 h99 h100 h101 h102 hq6) (cwV 1 hts gX11_chance_X11_thoughtOf rfl rfl rfl (by decide +kernel) ⟨Nat.le_of_ble_eq_true rfl, Nat.le_of_ble_eq_true rfl⟩) (preV_of hK hP (by omega) h86 rfl) rfl rfl hl.1 rfl (lv_room (Nat.le_of_ble_eq_true rfl)) dX11_chance_47 ⟨Nat.le_of_ble_eq_true rfl, Nat.le_of_ble_eq_true rfl⟩) hA hP hS (fun H locs hP hS => ?_)
        refine lv_lload_n hx hb dX11_chance_50 rfl (lv_at hl 0 rfl) ?_
        refine lv_iload_n hx hb dX11_chance_51 rfl (lv_at hl 3 rfl) ?_
        obtain ⟨q7, hq7, hf⟩ := bd_e hf
        refine k_lR (va_runS (As := [.long q6, .long q4, .int p1]) (rest := []) ⟨hx, hb, hml, hown, hts⟩ (c_X11_lowest (l := l) (sz := H.size) (p0 := q6) (p1 := q4) (p2 := p1) hq7) (va_cwS 3 hts gX11_chance_X11_lowest rfl rfl rfl (by decide +kernel) ⟨Nat.le_of_ble_eq_true rfl, Nat.le_of_ble_eq_true rfl⟩) preS0 rfl rfl hl.1 rfl (lv_room (Nat.le_of_ble_eq_true rfl)) dX11_chance_52 ⟨Nat.le_of_ble_eq_true rfl, Nat.le_of_ble_eq_true rfl⟩) hA hP hS (fun H locs hP hS => ?_)
        obtain rfl := Option.some.inj hf
        rw [← hQ]
        exact e_lR hx hb hr rfl hS hlocks dX11_chance_55
      · have hf := it_e c5 hf
        refine lv_ldc2 (own := RX11) hx hb hown k0 dX11_chance_39 ?_
        refine lv_goto (tgt := 55) hx hb dX11_chance_42 (by decide) ?_
        obtain rfl := Option.some.inj hf
        rw [← hQ]
        exact e_lR hx hb hr rfl hS hlocks dX11_chance_55
    · have hf := it_e c3 hf
      refine lv_ldc2 (own := RX11) hx hb hown k1 dX11_chance_24 ?_
      obtain rfl := Option.some.inj hf
      rw [← hQ]
      exact e_lR hx hb hr rfl hS hlocks dX11_chance_27
  · have hf := ie_e c1 hf
    refine lv_aload_n hx hb dX11_chance_5 rfl (lv_at hl 0 rfl) ?_
    refine lv_iload_n hx hb dX11_chance_6 rfl (lv_at hl 1 rfl) ?_
    obtain ⟨q8, hq8, hf⟩ := bd_e hf
    refine k_iR (va_runV (C := RX11) (As := [.int p0]) (rest := []) ⟨hx, hb, hml, hown, hts⟩ (c_X11_isSource (l := l) (sz := H.size) (p0 := p0) hN h86 h94 hq8) (cwV 1 hts gX11_chance_X11_isSource rfl rfl rfl (by decide +kernel) ⟨Nat.le_of_ble_eq_true rfl, Nat.le_of_ble_eq_true rfl⟩) (preV_of hK hP (by omega) h86 rfl) rfl rfl hl.1 rfl (lv_room (Nat.le_of_ble_eq_true rfl)) dX11_chance_7 ⟨Nat.le_of_ble_eq_true rfl, Nat.le_of_ble_eq_true rfl⟩) hA hP hS (fun H locs hP hS hbz_q8 => ?_)
    refine lv_if_ne (tgt := 17) hx hb dX11_chance_10 (by decide) (fun c9 => ?_) (fun c9 => ?_)
    · have hf := ie_e c9 hf
      refine lv_iload_n hx hb dX11_chance_17 rfl (lv_at hl 2 rfl) ?_
      obtain ⟨q10, hq10, hf⟩ := bd_e hf
      refine k_iR (va_runS (As := [.int p1]) (rest := []) ⟨hx, hb, hml, hown, hts⟩ (c_X11_isPart (l := l) (sz := H.size) (p0 := p1) hq10) (va_cwS 1 hts gX11_chance_X11_isPart rfl rfl rfl (by decide +kernel) ⟨Nat.le_of_ble_eq_true rfl, Nat.le_of_ble_eq_true rfl⟩) preS0 rfl rfl hl.1 rfl (lv_room (Nat.le_of_ble_eq_true rfl)) dX11_chance_18 ⟨Nat.le_of_ble_eq_true rfl, Nat.le_of_ble_eq_true rfl⟩) hA hP hS (fun H locs hP hS hbz_q10 => ?_)
      refine lv_if_ne (tgt := 28) hx hb dX11_chance_21 (by decide) (fun c11 => ?_) (fun c11 => ?_)
      · have hf := ie_e c11 hf
        refine lv_aload_n hx hb dX11_chance_28 rfl (lv_at hl 0 rfl) ?_
        obtain ⟨q12, hq12, hf⟩ := bd_e hf
        refine k_lR (va_runV (C := RX11) (As := []) (rest := []) ⟨hx, hb, hml, hown, hts⟩ (c_X11_allThought (l := l) (sz := H.size)  hN h86 h89 h90 h92 h93 h94 h95 h96 h97 h98 h99 h100 h101 h102 hq12) (cwV 0 hts gX11_chance_X11_allThought rfl rfl rfl (by decide +kernel) ⟨Nat.le_of_ble_eq_true rfl, Nat.le_of_ble_eq_true rfl⟩) (preV_of hK hP (by omega) h86 rfl) rfl rfl hl.1 rfl (lv_room (Nat.le_of_ble_eq_true rfl)) dX11_chance_29 ⟨Nat.le_of_ble_eq_true rfl, Nat.le_of_ble_eq_true rfl⟩) hA hP hS (fun H locs hP hS => ?_)
        refine lv_lstore_n (lv' := [(3, .long q12), (0, .ref (ad 86)), (1, .int p0), (2, .int p1)]) hx hb dX11_chance_32 rfl hl (by decide) rfl (fun ls hl => ?_)
        refine lv_lload_n hx hb dX11_chance_33 rfl (lv_at hl 0 rfl) ?_
        refine lv_lconst (v := 0) hx hb dX11_chance_34 (by decide) ?_
        refine W.lcmp hx hb dX11_chance_35 ?_
        refine lv_if_ne (tgt := 45) hx hb dX11_chance_36 (by decide) (fun c13 => ?_) (fun c13 => ?_)
        · have hf := ie_e c13 hf
          refine lv_aload_n hx hb dX11_chance_45 rfl (lv_at hl 1 rfl) ?_
          refine lv_iload_n hx hb dX11_chance_46 rfl (lv_at hl 2 rfl) ?_
          obtain ⟨q14, hq14, hf⟩ := bd_e hf
          refine k_lR (va_runV (C := RX11) (As := [.int p0]) (rest := []) ⟨hx, hb, hml, hown, hts⟩ (c_X11_thoughtOf (l := l) (sz := H.size) (p0 := p0) hN h86 h89 h90 h92 h93 h94 h95 h96 h97 h98 h99 h100 h101 h102 hq14) (cwV 1 hts gX11_chance_X11_thoughtOf rfl rfl rfl (by decide +kernel) ⟨Nat.le_of_ble_eq_true rfl, Nat.le_of_ble_eq_true rfl⟩) (preV_of hK hP (by omega) h86 rfl) rfl rfl hl.1 rfl (lv_room (Nat.le_of_ble_eq_true rfl)) dX11_chance_47 ⟨Nat.le_of_ble_eq_true rfl, Nat.le_of_ble_eq_true rfl⟩) hA hP hS (fun H locs hP hS => ?_)
          refine lv_lload_n hx hb dX11_chance_50 rfl (lv_at hl 0 rfl) ?_
          refine lv_iload_n hx hb dX11_chance_51 rfl (lv_at hl 3 rfl) ?_
          obtain ⟨q15, hq15, hf⟩ := bd_e hf
          refine k_lR (va_runS (As := [.long q14, .long q12, .int p1]) (rest := []) ⟨hx, hb, hml, hown, hts⟩ (c_X11_lowest (l := l) (sz := H.size) (p0 := q14) (p1 := q12) (p2 := p1) hq15) (va_cwS 3 hts gX11_chance_X11_lowest rfl rfl rfl (by decide +kernel) ⟨Nat.le_of_ble_eq_true rfl, Nat.le_of_ble_eq_true rfl⟩) preS0 rfl rfl hl.1 rfl (lv_room (Nat.le_of_ble_eq_true rfl)) dX11_chance_52 ⟨Nat.le_of_ble_eq_true rfl, Nat.le_of_ble_eq_true rfl⟩) hA hP hS (fun H locs hP hS => ?_)
          obtain rfl := Option.some.inj hf
          rw [← hQ]
          exact e_lR hx hb hr rfl hS hlocks dX11_chance_55
        · have hf := it_e c13 hf
          refine lv_ldc2 (own := RX11) hx hb hown k0 dX11_chance_39 ?_
          refine lv_goto (tgt := 55) hx hb dX11_chance_42 (by decide) ?_
          obtain rfl := Option.some.inj hf
          rw [← hQ]
          exact e_lR hx hb hr rfl hS hlocks dX11_chance_55
      · have hf := it_e c11 hf
        refine lv_ldc2 (own := RX11) hx hb hown k1 dX11_chance_24 ?_
        obtain rfl := Option.some.inj hf
        rw [← hQ]
        exact e_lR hx hb hr rfl hS hlocks dX11_chance_27
    · have hf := it_e c9 hf
      refine lv_ldc2 (own := RX11) hx hb hown k2 dX11_chance_13 ?_
      obtain rfl := Option.some.inj hf
      rw [← hQ]
      exact e_lR hx hb hr rfl hS hlocks dX11_chance_16

def f_X11_pair (p0 : Int32) (p1 : Int32) (m_down : Nat → Int32) (m_min : Nat → Int32) (m_gone : Nat → Int32) (m_flow : Nat → Int32) (m_lik : Nat → Int32) (m_str : Nat → Int32) (m_from : Nat → Int32) (m_to : Nat → Int32) (m_rain : Nat → Int32) (m_tell : Nat → Int32) (m_fy : Nat → Int32) (m_fn : Nat → Int32) (m_finds : Nat → Int32) (m_there : Int32) (m_fm : Int32) : Option (Int64) :=
  ri m_lik 12 (p0) fun x1 =>
  ri m_lik 12 (p1) fun x3 =>
  (f_X11_thought ((Int32.toInt64 x1) * (Int32.toInt64 x3)) p0 p1 m_down m_min m_gone m_flow m_str m_from m_to m_rain m_tell m_fy m_fn m_finds m_there m_fm).bind fun q5 =>
  some (q5)
abbrev rmX11_pair : Room := { frames := 6, cells := 0, slots := 0, locals := 154 }
set_option maxHeartbeats 4000000 in
set_option maxRecDepth 100000 in
theorem c_X11_pair {l : Launch} {D : va_G} {g : Nat → ClassId} {N : Nat} {ad : Nat → Nat} {C : Nat → va_E} {sz : Nat} {m_len : Int32} {m_rm : Int32} {m_there : Int32} {m_lift : Int32} {m_blank : Int32} {m_fm : Int32} {m_at : Int32} {m_pl : Int32} {m_end : Int32} {m_seed : Int32} {m_down : Nat → Int32} {m_min : Nat → Int32} {m_gone : Nat → Int32} {m_flow : Nat → Int32} {m_lik : Nat → Int32} {m_str : Nat → Int32} {m_from : Nat → Int32} {m_to : Nat → Int32} {m_rain : Nat → Int32} {m_tell : Nat → Int32} {m_fy : Nat → Int32} {m_fn : Nat → Int32} {m_finds : Nat → Int32} {p0 : Int32} {p1 : Int32} {rr : Int64} (hN : 109 ≤ N) (h86 : C 86 = .inr (11, [.ref (ad 87), .int m_len, .ref (ad 88), .int m_rm, .int m_there, .ref (ad 89), .ref (ad 90), .ref (ad 91), .ref (ad 92), .ref (ad 93), .ref (ad 94), .ref (ad 95), .ref (ad 96), .ref (ad 97), .ref (ad 98), .ref (ad 99), .ref (ad 100), .ref (ad 101), .int m_lift, .int m_blank, .ref (ad 102), .int m_fm, .int m_at, .int m_pl, .int m_end, .ref (ad 103), .ref (ad 104), .ref (ad 105), .ref (ad 106), .ref (ad 107), .ref (ad 108), .int m_seed])) (h89 : C 89 = aI g 12 m_down) (h90 : C 90 = aI g 12 m_min) (h92 : C 92 = aI g 12 m_gone) (h93 : C 93 = aI g 12 m_flow) (h94 : C 94 = aI g 12 m_lik) (h95 : C 95 = aI g 12 m_str) (h96 : C 96 = aI g 12 m_from) (h97 : C 97 = aI g 12 m_to) (h98 : C 98 = aI g 24 m_rain) (h99 : C 99 = aI g 4 m_tell) (h100 : C 100 = aI g 4 m_fy) (h101 : C 101 = aI g 4 m_fn) (h102 : C 102 = aI g 50 m_finds) (hf : f_X11_pair p0 p1 m_down m_min m_gone m_flow m_lik m_str m_from m_to m_rain m_tell m_fy m_fn m_finds m_there m_fm = some rr) : Met l yX11_pair wsX11_pair rmX11_pair (PcW D g N ad C sz [.ref (ad 86), .int p0, .int p1]) (QlR sz rr) 0 0 (An sz) := by
  refine Met.ofW (cc := cX11_pair) (maxL := 3) (ret := (some .long)) (by decide) rfl ?_
  intro p e s m args below meth c s₁ B hml hv
  obtain ⟨hav, hsz, hK, hP⟩ := hv
  subst hsz
  have hx := B.exec
  have hb := B.bytes
  have hr := B.returns
  have hts := atoms_spec (ws := wsX11_pair) B.pre
  have hown : s.vm.findClass RX11 = some m.cls := findClass_of_methodNamed B.named
  have hlocks := B.notSynchronized
  generalize hQ : MQ below (QlR s.heap.size rr) args s 0 0 (An s.heap.size) = QQ
  have hS : va_S (An s.heap.size) s.heap s.heap [] := va_S.rf
  have hA : ∀ q, s.heap.size ≤ q → (An s.heap.size) q := fun q h => h
  have k0 := hts (.fieldLink RX11 35 "UpDrainModel" "likely" "[I") (List.mem_of_getElem? (i := 1) rfl)
  have nX11 : ∀ w ∈ u_ws RX11 TX11 32, w ∈ wsX11_pair := fun _ h => List.mem_cons_of_mem _ (List.mem_append_right _ h)
  have hE := lg_entry_eq m [.ref (ad 86), .int p0, .int p1] 3
  rw [← hav] at hE
  rw [hE]
  have hl := lv_entry [.ref (ad 86), .int p0, .int p1] (n := 3) (Nat.le_of_ble_eq_true rfl)
  generalize (lg_sl [.ref (ad 86), .int p0, .int p1] ++ List.replicate (3 - (lg_sl [.ref (ad 86), .int p0, .int p1]).length) Slot.unset).toArray = ls at hl ⊢
  have hl : lv_has ls 3 [(0, .ref (ad 86)), (1, .int p0), (2, .int p1)] := hl
  clear hE
  unfold f_X11_pair at hf
  suffices hgo : ∀ (H : Heap) (locs : List Loc), va_P D vwCl (wd N ad C) H → va_S (An s.heap.size) s.heap H locs → W p l e (headSpec wsX11_pair rmX11_pair).room s m args below meth c H locs 0 0 QQ (F0 m 0 ls []) from hgo s.heap [] hP hS
  clear hS hP
  intro H locs hP hS
  refine lv_aload_n hx hb dX11_pair_0 rfl (lv_at hl 0 rfl) ?_
  refine lv_aload_n hx hb dX11_pair_1 rfl (lv_at hl 0 rfl) ?_
  refine r_get (own := RX11) (T := TX11) (n := 32) (ci := 11) (v := .ref (ad 94)) hx hb hts nX11 hown hK hP (by omega) h86 rfl 10 (by decide) k0 rfl dX11_pair_2 ?_
  refine lv_iload_n hx hb dX11_pair_5 rfl (lv_at hl 1 rfl) ?_
  obtain ⟨i2, x1, ex1, hf⟩ := ri_e hf
  refine r_iald hx hb hK hP (by omega) h94 i2 dX11_pair_6 ex1 ?_
  refine lv_i2l hx hb dX11_pair_7 rfl ?_
  refine lv_aload_n hx hb dX11_pair_8 rfl (lv_at hl 0 rfl) ?_
  refine r_get (own := RX11) (T := TX11) (n := 32) (ci := 11) (v := .ref (ad 94)) hx hb hts nX11 hown hK hP (by omega) h86 rfl 10 (by decide) k0 rfl dX11_pair_9 ?_
  refine lv_iload_n hx hb dX11_pair_12 rfl (lv_at hl 2 rfl) ?_
  obtain ⟨i4, x3, ex3, hf⟩ := ri_e hf
  refine r_iald hx hb hK hP (by omega) h94 i4 dX11_pair_13 ex3 ?_
  refine lv_i2l hx hb dX11_pair_14 rfl ?_
  refine lv_lmul hx hb dX11_pair_15 ?_
  refine lv_iload_n hx hb dX11_pair_16 rfl (lv_at hl 1 rfl) ?_
  refine lv_iload_n hx hb dX11_pair_17 rfl (lv_at hl 2 rfl) ?_
  obtain ⟨q5, hq5, hf⟩ := bd_e hf
  refine k_lR (va_runV (C := RX11) (As := [.long ((Int32.toInt64 x1) * (Int32.toInt64 x3)), .int p0, .int p1]) (rest := []) ⟨hx, hb, hml, hown, hts⟩ (c_X11_thought (l := l) (sz := H.size) (p0 := ((Int32.toInt64 x1) * (Int32.toInt64 x3))) (p1 := p0) (p2 := p1) hN h86 h89 h90 h92 h93 h95 h96 h97 h98 h99 h100 h101 h102 hq5) (cwV 3 hts gX11_pair_X11_thought rfl rfl rfl (by decide +kernel) ⟨Nat.le_of_ble_eq_true rfl, Nat.le_of_ble_eq_true rfl⟩) (preV_of hK hP (by omega) h86 rfl) rfl rfl hl.1 rfl (lv_room (Nat.le_of_ble_eq_true rfl)) dX11_pair_18 ⟨Nat.le_of_ble_eq_true rfl, Nat.le_of_ble_eq_true rfl⟩) hA hP hS (fun H locs hP hS => ?_)
  obtain rfl := Option.some.inj hf
  rw [← hQ]
  exact e_lR hx hb hr rfl hS hlocks dX11_pair_21

def LX11_two_48 (m_down : Nat → Int32) (m_min : Nat → Int32) (m_gone : Nat → Int32) (m_flow : Nat → Int32) (m_lik : Nat → Int32) (m_str : Nat → Int32) (m_from : Nat → Int32) (m_to : Nat → Int32) (m_rain : Nat → Int32) (m_tell : Nat → Int32) (m_fy : Nat → Int32) (m_fn : Nat → Int32) (m_finds : Nat → Int32) (m_there : Int32) (m_fm : Int32) (q8 : Int32) (ko : Int64 → Int32 → Option (Int64)) : Nat → Int64 → Int32 → Option (Int64)
  | 0, _, _ => none
  | n + 1, x10, x11 =>
    if 144 ≤ x11 then
      ko x10 x11
    else
      nz (12) <|
      lt ((x11 / 12) : Int32) fun x16 =>
      nz (12) <|
      lt ((x11 - x11 / 12 * 12) : Int32) fun x18 =>
      (if x18 ≤ x16 then
        some ((0 : Int64))
      else
        (f_X11_has q8 x16).bind fun q23 =>
        if q23 = 0 then
          some ((0 : Int64))
        else
          (f_X11_has q8 x18).bind fun q25 =>
          if q25 = 0 then
            some ((0 : Int64))
          else
            (f_X11_pair x16 x18 m_down m_min m_gone m_flow m_lik m_str m_from m_to m_rain m_tell m_fy m_fn m_finds m_there m_fm).bind fun q27 =>
            some (q27) : Option (Int64)).bind fun q19 =>
      lt ((x10 + q19) : Int64) fun x20 =>
      lt (x11 + 1 : Int32) fun x21 =>
      LX11_two_48 m_down m_min m_gone m_flow m_lik m_str m_from m_to m_rain m_tell m_fy m_fn m_finds m_there m_fm q8 ko n x20 x21
theorem LX11_two_48_z (m_down : Nat → Int32) (m_min : Nat → Int32) (m_gone : Nat → Int32) (m_flow : Nat → Int32) (m_lik : Nat → Int32) (m_str : Nat → Int32) (m_from : Nat → Int32) (m_to : Nat → Int32) (m_rain : Nat → Int32) (m_tell : Nat → Int32) (m_fy : Nat → Int32) (m_fn : Nat → Int32) (m_finds : Nat → Int32) (m_there : Int32) (m_fm : Int32) (q8 : Int32) (ko : Int64 → Int32 → Option (Int64)) (x10 : Int64) (x11 : Int32) : LX11_two_48 m_down m_min m_gone m_flow m_lik m_str m_from m_to m_rain m_tell m_fy m_fn m_finds m_there m_fm q8 ko 0 x10 x11 = none := rfl
theorem LX11_two_48_s (m_down : Nat → Int32) (m_min : Nat → Int32) (m_gone : Nat → Int32) (m_flow : Nat → Int32) (m_lik : Nat → Int32) (m_str : Nat → Int32) (m_from : Nat → Int32) (m_to : Nat → Int32) (m_rain : Nat → Int32) (m_tell : Nat → Int32) (m_fy : Nat → Int32) (m_fn : Nat → Int32) (m_finds : Nat → Int32) (m_there : Int32) (m_fm : Int32) (q8 : Int32) (ko : Int64 → Int32 → Option (Int64)) (n : Nat) (x10 : Int64) (x11 : Int32) : LX11_two_48 m_down m_min m_gone m_flow m_lik m_str m_from m_to m_rain m_tell m_fy m_fn m_finds m_there m_fm q8 ko (n + 1) x10 x11 =
    if 144 ≤ x11 then
      ko x10 x11
    else
      nz (12) <|
      lt ((x11 / 12) : Int32) fun x16 =>
      nz (12) <|
      lt ((x11 - x11 / 12 * 12) : Int32) fun x18 =>
      (if x18 ≤ x16 then
        some ((0 : Int64))
      else
        (f_X11_has q8 x16).bind fun q23 =>
        if q23 = 0 then
          some ((0 : Int64))
        else
          (f_X11_has q8 x18).bind fun q25 =>
          if q25 = 0 then
            some ((0 : Int64))
          else
            (f_X11_pair x16 x18 m_down m_min m_gone m_flow m_lik m_str m_from m_to m_rain m_tell m_fy m_fn m_finds m_there m_fm).bind fun q27 =>
            some (q27) : Option (Int64)).bind fun q19 =>
      lt ((x10 + q19) : Int64) fun x20 =>
      lt (x11 + 1 : Int32) fun x21 =>
      LX11_two_48 m_down m_min m_gone m_flow m_lik m_str m_from m_to m_rain m_tell m_fy m_fn m_finds m_there m_fm q8 ko n x20 x21 := rfl
def f_X11_two (p0 : Int32) (p1 : Int32) (p2 : Int32) (m_down : Nat → Int32) (m_min : Nat → Int32) (m_gone : Nat → Int32) (m_flow : Nat → Int32) (m_lik : Nat → Int32) (m_str : Nat → Int32) (m_from : Nat → Int32) (m_to : Nat → Int32) (m_rain : Nat → Int32) (m_tell : Nat → Int32) (m_fy : Nat → Int32) (m_fn : Nat → Int32) (m_finds : Nat → Int32) (m_there : Int32) (m_fm : Int32) : Option (Int64) :=
  (f_X11_isSource p0 m_lik m_there).bind fun q1 =>
  if q1 = 0 then
    some ((-2 : Int64))
  else
    (f_X11_isSource p1 m_lik m_there).bind fun q3 =>
    if q3 = 0 then
      some ((-2 : Int64))
    else
      if p0 = p1 then
        some ((-2 : Int64))
      else
        (f_X11_isPart p2).bind fun q6 =>
        if q6 = 0 then
          some ((-3 : Int64))
        else
          (f_X11_sources m_lik m_there).bind fun q8 =>
          lt ((0 : Int64) : Int64) fun x9 =>
          LX11_two_48 m_down m_min m_gone m_flow m_lik m_str m_from m_to m_rain m_tell m_fy m_fn m_finds m_there m_fm q8 (fun x12 x13 =>
            if (lg_cmp x12 (0 : Int64)) = 0 then
              some ((-4 : Int64))
            else
              (f_X11_pair p0 p1 m_down m_min m_gone m_flow m_lik m_str m_from m_to m_rain m_tell m_fy m_fn m_finds m_there m_fm).bind fun q29 =>
              (f_X11_lowest q29 x12 p2).bind fun q30 =>
              some (q30)) FU x9 0
abbrev rmX11_two : Room := { frames := 7, cells := 0, slots := 0, locals := 176 }
set_option maxHeartbeats 4000000 in
set_option maxRecDepth 100000 in
theorem c_X11_two {l : Launch} {D : va_G} {g : Nat → ClassId} {N : Nat} {ad : Nat → Nat} {C : Nat → va_E} {sz : Nat} {m_len : Int32} {m_rm : Int32} {m_there : Int32} {m_lift : Int32} {m_blank : Int32} {m_fm : Int32} {m_at : Int32} {m_pl : Int32} {m_end : Int32} {m_seed : Int32} {m_down : Nat → Int32} {m_min : Nat → Int32} {m_gone : Nat → Int32} {m_flow : Nat → Int32} {m_lik : Nat → Int32} {m_str : Nat → Int32} {m_from : Nat → Int32} {m_to : Nat → Int32} {m_rain : Nat → Int32} {m_tell : Nat → Int32} {m_fy : Nat → Int32} {m_fn : Nat → Int32} {m_finds : Nat → Int32} {p0 : Int32} {p1 : Int32} {p2 : Int32} {rr : Int64} (hN : 109 ≤ N) (h86 : C 86 = .inr (11, [.ref (ad 87), .int m_len, .ref (ad 88), .int m_rm, .int m_there, .ref (ad 89), .ref (ad 90), .ref (ad 91), .ref (ad 92), .ref (ad 93), .ref (ad 94), .ref (ad 95), .ref (ad 96), .ref (ad 97), .ref (ad 98), .ref (ad 99), .ref (ad 100), .ref (ad 101), .int m_lift, .int m_blank, .ref (ad 102), .int m_fm, .int m_at, .int m_pl, .int m_end, .ref (ad 103), .ref (ad 104), .ref (ad 105), .ref (ad 106), .ref (ad 107), .ref (ad 108), .int m_seed])) (h89 : C 89 = aI g 12 m_down) (h90 : C 90 = aI g 12 m_min) (h92 : C 92 = aI g 12 m_gone) (h93 : C 93 = aI g 12 m_flow) (h94 : C 94 = aI g 12 m_lik) (h95 : C 95 = aI g 12 m_str) (h96 : C 96 = aI g 12 m_from) (h97 : C 97 = aI g 12 m_to) (h98 : C 98 = aI g 24 m_rain) (h99 : C 99 = aI g 4 m_tell) (h100 : C 100 = aI g 4 m_fy) (h101 : C 101 = aI g 4 m_fn) (h102 : C 102 = aI g 50 m_finds) (hf : f_X11_two p0 p1 p2 m_down m_min m_gone m_flow m_lik m_str m_from m_to m_rain m_tell m_fy m_fn m_finds m_there m_fm = some rr) : Met l yX11_two wsX11_two rmX11_two (PcW D g N ad C sz [.ref (ad 86), .int p0, .int p1, .int p2]) (QlR sz rr) 0 0 (An sz) := by
  refine Met.ofW (cc := cX11_two) (maxL := 10) (ret := (some .long)) (by decide) rfl ?_
  intro p e s m args below meth c s₁ B hml hv
  obtain ⟨hav, hsz, hK, hP⟩ := hv
  subst hsz
  have hx := B.exec
  have hb := B.bytes
  have hr := B.returns
  have hts := atoms_spec (ws := wsX11_two) B.pre
  have hown : s.vm.findClass RX11 = some m.cls := findClass_of_methodNamed B.named
  have hlocks := B.notSynchronized
  generalize hQ : MQ below (QlR s.heap.size rr) args s 0 0 (An s.heap.size) = QQ
  have hS : va_S (An s.heap.size) s.heap s.heap [] := va_S.rf
  have hA : ∀ q, s.heap.size ≤ q → (An s.heap.size) q := fun q h => h
  have k0 := hts (.constantLong RX11 232 (-2)) (List.mem_of_getElem? (i := 1) rfl)
  have k1 := hts (.constantLong RX11 243 (-4)) (List.mem_of_getElem? (i := 3) rfl)
  have k2 := hts (.constantLong RX11 237 (-3)) (List.mem_of_getElem? (i := 2) rfl)
  have hE := lg_entry_eq m [.ref (ad 86), .int p0, .int p1, .int p2] 10
  rw [← hav] at hE
  rw [hE]
  have hl := lv_entry [.ref (ad 86), .int p0, .int p1, .int p2] (n := 10) (Nat.le_of_ble_eq_true rfl)
  generalize (lg_sl [.ref (ad 86), .int p0, .int p1, .int p2] ++ List.replicate (10 - (lg_sl [.ref (ad 86), .int p0, .int p1, .int p2]).length) Slot.unset).toArray = ls at hl ⊢
  have hl : lv_has ls 10 [(0, .ref (ad 86)), (1, .int p0), (2, .int p1), (3, .int p2)] := hl
  clear hE
  unfold f_X11_two at hf
  suffices hgo : ∀ (H : Heap) (locs : List Loc), va_P D vwCl (wd N ad C) H → va_S (An s.heap.size) s.heap H locs → W p l e (headSpec wsX11_two rmX11_two).room s m args below meth c H locs 0 0 QQ (F0 m 0 ls []) from hgo s.heap [] hP hS
  clear hS hP
  intro H locs hP hS
  refine lv_aload_n hx hb dX11_two_0 rfl (lv_at hl 0 rfl) ?_
  refine lv_iload_n hx hb dX11_two_1 rfl (lv_at hl 1 rfl) ?_
  obtain ⟨q1, hq1, hf⟩ := bd_e hf
  refine k_iR (va_runV (C := RX11) (As := [.int p0]) (rest := []) ⟨hx, hb, hml, hown, hts⟩ (c_X11_isSource (l := l) (sz := H.size) (p0 := p0) hN h86 h94 hq1) (cwV 1 hts gX11_two_X11_isSource rfl rfl rfl (by decide +kernel) ⟨Nat.le_of_ble_eq_true rfl, Nat.le_of_ble_eq_true rfl⟩) (preV_of hK hP (by omega) h86 rfl) rfl rfl hl.1 rfl (lv_room (Nat.le_of_ble_eq_true rfl)) dX11_two_2 ⟨Nat.le_of_ble_eq_true rfl, Nat.le_of_ble_eq_true rfl⟩) hA hP hS (fun H locs hP hS hbz_q1 => ?_)
  refine lv_if_eq (tgt := 21) hx hb dX11_two_5 (by decide) (fun c2 => ?_) (fun c2 => ?_)
  · have hf := it_e c2 hf
    refine lv_ldc2 (own := RX11) hx hb hown k0 dX11_two_21 ?_
    obtain rfl := Option.some.inj hf
    rw [← hQ]
    exact e_lR hx hb hr rfl hS hlocks dX11_two_24
  · have hf := ie_e c2 hf
    refine lv_aload_n hx hb dX11_two_8 rfl (lv_at hl 0 rfl) ?_
    refine lv_iload_n hx hb dX11_two_9 rfl (lv_at hl 2 rfl) ?_
    obtain ⟨q3, hq3, hf⟩ := bd_e hf
    refine k_iR (va_runV (C := RX11) (As := [.int p1]) (rest := []) ⟨hx, hb, hml, hown, hts⟩ (c_X11_isSource (l := l) (sz := H.size) (p0 := p1) hN h86 h94 hq3) (cwV 1 hts gX11_two_X11_isSource rfl rfl rfl (by decide +kernel) ⟨Nat.le_of_ble_eq_true rfl, Nat.le_of_ble_eq_true rfl⟩) (preV_of hK hP (by omega) h86 rfl) rfl rfl hl.1 rfl (lv_room (Nat.le_of_ble_eq_true rfl)) dX11_two_10 ⟨Nat.le_of_ble_eq_true rfl, Nat.le_of_ble_eq_true rfl⟩) hA hP hS (fun H locs hP hS hbz_q3 => ?_)
    refine lv_if_eq (tgt := 21) hx hb dX11_two_13 (by decide) (fun c4 => ?_) (fun c4 => ?_)
    · have hf := it_e c4 hf
      refine lv_ldc2 (own := RX11) hx hb hown k0 dX11_two_21 ?_
      obtain rfl := Option.some.inj hf
      rw [← hQ]
      exact e_lR hx hb hr rfl hS hlocks dX11_two_24
    · have hf := ie_e c4 hf
      refine lv_iload_n hx hb dX11_two_16 rfl (lv_at hl 1 rfl) ?_
      refine lv_iload_n hx hb dX11_two_17 rfl (lv_at hl 2 rfl) ?_
      refine lv_icmp_ne (tgt := 25) hx hb dX11_two_18 (by decide) (fun c5 => ?_) (fun c5 => ?_)
      · have hf := ie_e c5 hf
        refine lv_iload_n hx hb dX11_two_25 rfl (lv_at hl 3 rfl) ?_
        obtain ⟨q6, hq6, hf⟩ := bd_e hf
        refine k_iR (va_runS (As := [.int p2]) (rest := []) ⟨hx, hb, hml, hown, hts⟩ (c_X11_isPart (l := l) (sz := H.size) (p0 := p2) hq6) (va_cwS 1 hts gX11_two_X11_isPart rfl rfl rfl (by decide +kernel) ⟨Nat.le_of_ble_eq_true rfl, Nat.le_of_ble_eq_true rfl⟩) preS0 rfl rfl hl.1 rfl (lv_room (Nat.le_of_ble_eq_true rfl)) dX11_two_26 ⟨Nat.le_of_ble_eq_true rfl, Nat.le_of_ble_eq_true rfl⟩) hA hP hS (fun H locs hP hS hbz_q6 => ?_)
        refine lv_if_ne (tgt := 36) hx hb dX11_two_29 (by decide) (fun c7 => ?_) (fun c7 => ?_)
        · have hf := ie_e c7 hf
          refine lv_aload_n hx hb dX11_two_36 rfl (lv_at hl 0 rfl) ?_
          obtain ⟨q8, hq8, hf⟩ := bd_e hf
          refine k_iR (va_runV (C := RX11) (As := []) (rest := []) ⟨hx, hb, hml, hown, hts⟩ (c_X11_sources (l := l) (sz := H.size)  hN h86 h94 hq8) (cwV 0 hts gX11_two_X11_sources rfl rfl rfl (by decide +kernel) ⟨Nat.le_of_ble_eq_true rfl, Nat.le_of_ble_eq_true rfl⟩) (preV_of hK hP (by omega) h86 rfl) rfl rfl hl.1 rfl (lv_room (Nat.le_of_ble_eq_true rfl)) dX11_two_37 ⟨Nat.le_of_ble_eq_true rfl, Nat.le_of_ble_eq_true rfl⟩) hA hP hS (fun H locs hP hS hbz_q8 => ?_)
          refine lv_istore (lv' := [(4, .int q8), (0, .ref (ad 86)), (1, .int p0), (2, .int p1), (3, .int p2)]) hx hb dX11_two_40 hl (by decide) rfl (fun ls hl => ?_)
          refine lv_lconst (v := 0) hx hb dX11_two_42 (by decide) ?_
          obtain ⟨x9, ex9, hf⟩ := lt_e hf
          refine tp_l ex9 ?_
          refine lv_lstore (lv' := [(5, .long x9), (4, .int q8), (0, .ref (ad 86)), (1, .int p0), (2, .int p1), (3, .int p2)]) hx hb dX11_two_43 hl (by decide) rfl (fun ls hl => ?_)
          refine lv_iconst (v := 0) hx hb dX11_two_45 (by decide) ?_
          refine lv_istore (lv' := [(7, .int 0), (5, .long x9), (4, .int q8), (0, .ref (ad 86)), (1, .int p0), (2, .int p1), (3, .int p2)]) hx hb dX11_two_46 hl (by decide) rfl (fun ls hl => ?_)
          have key48 : ∀ (ko : Int64 → Int32 → Option (Int64)), (∀ (x12 : Int64) (x13 : Int32) (C : Nat → va_E) (H : Heap) (locs : List Loc) (ls : Array Slot), va_P D vwCl (wd N ad C) H → va_S (An s.heap.size) s.heap H locs → C 86 = .inr (11, [.ref (ad 87), .int m_len, .ref (ad 88), .int m_rm, .int m_there, .ref (ad 89), .ref (ad 90), .ref (ad 91), .ref (ad 92), .ref (ad 93), .ref (ad 94), .ref (ad 95), .ref (ad 96), .ref (ad 97), .ref (ad 98), .ref (ad 99), .ref (ad 100), .ref (ad 101), .int m_lift, .int m_blank, .ref (ad 102), .int m_fm, .int m_at, .int m_pl, .int m_end, .ref (ad 103), .ref (ad 104), .ref (ad 105), .ref (ad 106), .ref (ad 107), .ref (ad 108), .int m_seed]) → C 89 = aI g 12 m_down → C 90 = aI g 12 m_min → C 92 = aI g 12 m_gone → C 93 = aI g 12 m_flow → C 94 = aI g 12 m_lik → C 95 = aI g 12 m_str → C 96 = aI g 12 m_from → C 97 = aI g 12 m_to → C 98 = aI g 24 m_rain → C 99 = aI g 4 m_tell → C 100 = aI g 4 m_fy → C 101 = aI g 4 m_fn → C 102 = aI g 50 m_finds → lv_has ls 10 [(0, .ref (ad 86)), (1, .int p0), (2, .int p1), (3, .int p2), (4, .int q8), (5, .long x12), (7, .int x13)] → ko x12 x13 = some rr → W p l e (headSpec wsX11_two rmX11_two).room s m args below meth c H locs 0 0 QQ (F0 m 120 ls [])) → ∀ (n : Nat) (x10 : Int64) (x11 : Int32) (C : Nat → va_E) (H : Heap) (locs : List Loc) (ls : Array Slot), va_P D vwCl (wd N ad C) H → va_S (An s.heap.size) s.heap H locs → C 86 = .inr (11, [.ref (ad 87), .int m_len, .ref (ad 88), .int m_rm, .int m_there, .ref (ad 89), .ref (ad 90), .ref (ad 91), .ref (ad 92), .ref (ad 93), .ref (ad 94), .ref (ad 95), .ref (ad 96), .ref (ad 97), .ref (ad 98), .ref (ad 99), .ref (ad 100), .ref (ad 101), .int m_lift, .int m_blank, .ref (ad 102), .int m_fm, .int m_at, .int m_pl, .int m_end, .ref (ad 103), .ref (ad 104), .ref (ad 105), .ref (ad 106), .ref (ad 107), .ref (ad 108), .int m_seed]) → C 89 = aI g 12 m_down → C 90 = aI g 12 m_min → C 92 = aI g 12 m_gone → C 93 = aI g 12 m_flow → C 94 = aI g 12 m_lik → C 95 = aI g 12 m_str → C 96 = aI g 12 m_from → C 97 = aI g 12 m_to → C 98 = aI g 24 m_rain → C 99 = aI g 4 m_tell → C 100 = aI g 4 m_fy → C 101 = aI g 4 m_fn → C 102 = aI g 50 m_finds → lv_has ls 10 [(0, .ref (ad 86)), (1, .int p0), (2, .int p1), (3, .int p2), (4, .int q8), (5, .long x10), (7, .int x11)] → LX11_two_48 m_down m_min m_gone m_flow m_lik m_str m_from m_to m_rain m_tell m_fy m_fn m_finds m_there m_fm q8 ko n x10 x11 = some rr → W p l e (headSpec wsX11_two rmX11_two).room s m args below meth c H locs 0 0 QQ (F0 m 48 ls []) := by
            intro ko hko n
            induction n with
            | zero =>
              intro x10 x11 C H locs ls hP hS h86 h89 h90 h92 h93 h94 h95 h96 h97 h98 h99 h100 h101 h102 hl hf
              rw [LX11_two_48_z] at hf
              cases hf
            | succ n ih =>
              intro x10 x11 C H locs ls hP hS h86 h89 h90 h92 h93 h94 h95 h96 h97 h98 h99 h100 h101 h102 hl hf
              rw [LX11_two_48_s] at hf
              refine lv_iload hx hb dX11_two_48 (lv_at hl 6 rfl) ?_
              refine lv_sipush (v := 144) hx hb dX11_two_50 (by decide) ?_
              refine lv_icmp_ge (tgt := 120) hx hb dX11_two_53 (by decide) (fun c14 => ?_) (fun c14 => ?_)
              · have hf := it_e c14 hf
                exact hko x10 x11 C H locs ls hP hS h86 h89 h90 h92 h93 h94 h95 h96 h97 h98 h99 h100 h101 h102 (lv_sub hl [0, 1, 2, 3, 4, 5, 6] rfl) hf
              · have hf := ie_e c14 hf
                refine lv_iload hx hb dX11_two_56 (lv_at hl 6 rfl) ?_
                refine lv_bipush (v := 12) hx hb dX11_two_58 (by decide) ?_
                obtain ⟨z15, hf⟩ := nz_e hf
                refine lv_idiv hx hb dX11_two_60 z15 ?_
                obtain ⟨x16, ex16, hf⟩ := lt_e hf
                refine tp_i ex16 ?_
                refine lv_istore (lv' := [(8, .int x16), (0, .ref (ad 86)), (1, .int p0), (2, .int p1), (3, .int p2), (4, .int q8), (5, .long x10), (7, .int x11)]) hx hb dX11_two_61 hl (by decide) rfl (fun ls hl => ?_)
                refine lv_iload hx hb dX11_two_63 (lv_at hl 7 rfl) ?_
                refine lv_bipush (v := 12) hx hb dX11_two_65 (by decide) ?_
                obtain ⟨z17, hf⟩ := nz_e hf
                refine lv_irem hx hb dX11_two_67 z17 ?_
                obtain ⟨x18, ex18, hf⟩ := lt_e hf
                refine tp_i ex18 ?_
                refine lv_istore (lv' := [(9, .int x18), (8, .int x16), (0, .ref (ad 86)), (1, .int p0), (2, .int p1), (3, .int p2), (4, .int q8), (5, .long x10), (7, .int x11)]) hx hb dX11_two_68 hl (by decide) rfl (fun ls hl => ?_)
                refine lv_lload hx hb dX11_two_70 (lv_at hl 7 rfl) ?_
                refine lv_iload hx hb dX11_two_72 (lv_at hl 1 rfl) ?_
                refine lv_iload hx hb dX11_two_74 (lv_at hl 0 rfl) ?_
                obtain ⟨q19, htq19, hf⟩ := bd_e hf
                have jnq19 : ∀ (C : Nat → va_E) (H : Heap) (locs : List Loc) (ls : Array Slot), va_P D vwCl (wd N ad C) H → va_S (An s.heap.size) s.heap H locs → C 86 = .inr (11, [.ref (ad 87), .int m_len, .ref (ad 88), .int m_rm, .int m_there, .ref (ad 89), .ref (ad 90), .ref (ad 91), .ref (ad 92), .ref (ad 93), .ref (ad 94), .ref (ad 95), .ref (ad 96), .ref (ad 97), .ref (ad 98), .ref (ad 99), .ref (ad 100), .ref (ad 101), .int m_lift, .int m_blank, .ref (ad 102), .int m_fm, .int m_at, .int m_pl, .int m_end, .ref (ad 103), .ref (ad 104), .ref (ad 105), .ref (ad 106), .ref (ad 107), .ref (ad 108), .int m_seed]) → C 89 = aI g 12 m_down → C 90 = aI g 12 m_min → C 92 = aI g 12 m_gone → C 93 = aI g 12 m_flow → C 94 = aI g 12 m_lik → C 95 = aI g 12 m_str → C 96 = aI g 12 m_from → C 97 = aI g 12 m_to → C 98 = aI g 24 m_rain → C 99 = aI g 4 m_tell → C 100 = aI g 4 m_fy → C 101 = aI g 4 m_fn → C 102 = aI g 50 m_finds → lv_has ls 10 [(0, .ref (ad 86)), (1, .int p0), (2, .int p1), (3, .int p2), (4, .int q8), (5, .long x10), (7, .int x11), (8, .int x16), (9, .int x18)] → W p l e (headSpec wsX11_two rmX11_two).room s m args below meth c H locs 0 0 QQ (F0 m 111 ls [.long q19, .long x10]) := by
                  intro C H locs ls hP hS h86 h89 h90 h92 h93 h94 h95 h96 h97 h98 h99 h100 h101 h102 hl
                  refine lv_ladd hx hb dX11_two_111 ?_
                  obtain ⟨x20, ex20, hf⟩ := lt_e hf
                  refine tp_l ex20 ?_
                  refine lv_lstore (lv' := [(5, .long x20), (0, .ref (ad 86)), (1, .int p0), (2, .int p1), (3, .int p2), (4, .int q8), (7, .int x11), (8, .int x16), (9, .int x18)]) hx hb dX11_two_112 hl (by decide) rfl (fun ls hl => ?_)
                  obtain ⟨x21, ex21, hf⟩ := lt_e hf
                  refine lv_iinc (v := x21) (lv' := [(7, .int x21), (5, .long x20), (0, .ref (ad 86)), (1, .int p0), (2, .int p1), (3, .int p2), (4, .int q8), (8, .int x16), (9, .int x18)]) hx hb dX11_two_114 hl (k := 6) rfl (by rw [ex21]; rfl) (by decide) rfl (fun ls hl => ?_)
                  refine lv_goto (tgt := 48) hx hb dX11_two_117 (by decide) ?_
                  exact ih x20 x21 C H locs ls hP hS h86 h89 h90 h92 h93 h94 h95 h96 h97 h98 h99 h100 h101 h102 (lv_sub hl [2, 3, 4, 5, 6, 1, 0] rfl) hf
                clear hf
                have hf := htq19
                refine lv_icmp_ge (tgt := 110) hx hb dX11_two_76 (by decide) (fun c22 => ?_) (fun c22 => ?_)
                · have hf := it_e c22 hf
                  refine lv_lconst (v := 0) hx hb dX11_two_110 (by decide) ?_
                  obtain rfl := Option.some.inj hf
                  exact jnq19 C H locs ls hP hS h86 h89 h90 h92 h93 h94 h95 h96 h97 h98 h99 h100 h101 h102 (lv_sub hl [2, 3, 4, 5, 6, 7, 8, 1, 0] rfl)
                · have hf := ie_e c22 hf
                  refine lv_iload hx hb dX11_two_79 (lv_at hl 6 rfl) ?_
                  refine lv_iload hx hb dX11_two_81 (lv_at hl 1 rfl) ?_
                  obtain ⟨q23, hq23, hf⟩ := bd_e hf
                  refine k_iR (va_runS (As := [.int q8, .int x16]) (rest := [.long x10]) ⟨hx, hb, hml, hown, hts⟩ (c_X11_has (l := l) (sz := H.size) (p0 := q8) (p1 := x16) hq23) (va_cwS 2 hts gX11_two_X11_has rfl rfl rfl (by decide +kernel) ⟨Nat.le_of_ble_eq_true rfl, Nat.le_of_ble_eq_true rfl⟩) preS0 rfl rfl hl.1 rfl (lv_room (Nat.le_of_ble_eq_true rfl)) dX11_two_83 ⟨Nat.le_of_ble_eq_true rfl, Nat.le_of_ble_eq_true rfl⟩) hA hP hS (fun H locs hP hS hbz_q23 => ?_)
                  refine lv_if_eq (tgt := 110) hx hb dX11_two_86 (by decide) (fun c24 => ?_) (fun c24 => ?_)
                  · have hf := it_e c24 hf
                    refine lv_lconst (v := 0) hx hb dX11_two_110 (by decide) ?_
                    obtain rfl := Option.some.inj hf
                    exact jnq19 C H locs ls hP hS h86 h89 h90 h92 h93 h94 h95 h96 h97 h98 h99 h100 h101 h102 (lv_sub hl [2, 3, 4, 5, 6, 7, 8, 1, 0] rfl)
                  · have hf := ie_e c24 hf
                    refine lv_iload hx hb dX11_two_89 (lv_at hl 6 rfl) ?_
                    refine lv_iload hx hb dX11_two_91 (lv_at hl 0 rfl) ?_
                    obtain ⟨q25, hq25, hf⟩ := bd_e hf
                    refine k_iR (va_runS (As := [.int q8, .int x18]) (rest := [.long x10]) ⟨hx, hb, hml, hown, hts⟩ (c_X11_has (l := l) (sz := H.size) (p0 := q8) (p1 := x18) hq25) (va_cwS 2 hts gX11_two_X11_has rfl rfl rfl (by decide +kernel) ⟨Nat.le_of_ble_eq_true rfl, Nat.le_of_ble_eq_true rfl⟩) preS0 rfl rfl hl.1 rfl (lv_room (Nat.le_of_ble_eq_true rfl)) dX11_two_93 ⟨Nat.le_of_ble_eq_true rfl, Nat.le_of_ble_eq_true rfl⟩) hA hP hS (fun H locs hP hS hbz_q25 => ?_)
                    refine lv_if_eq (tgt := 110) hx hb dX11_two_96 (by decide) (fun c26 => ?_) (fun c26 => ?_)
                    · have hf := it_e c26 hf
                      refine lv_lconst (v := 0) hx hb dX11_two_110 (by decide) ?_
                      obtain rfl := Option.some.inj hf
                      exact jnq19 C H locs ls hP hS h86 h89 h90 h92 h93 h94 h95 h96 h97 h98 h99 h100 h101 h102 (lv_sub hl [2, 3, 4, 5, 6, 7, 8, 1, 0] rfl)
                    · have hf := ie_e c26 hf
                      refine lv_aload_n hx hb dX11_two_99 rfl (lv_at hl 2 rfl) ?_
                      refine lv_iload hx hb dX11_two_100 (lv_at hl 1 rfl) ?_
                      refine lv_iload hx hb dX11_two_102 (lv_at hl 0 rfl) ?_
                      obtain ⟨q27, hq27, hf⟩ := bd_e hf
                      refine k_lR (va_runV (C := RX11) (As := [.int x16, .int x18]) (rest := [.long x10]) ⟨hx, hb, hml, hown, hts⟩ (c_X11_pair (l := l) (sz := H.size) (p0 := x16) (p1 := x18) hN h86 h89 h90 h92 h93 h94 h95 h96 h97 h98 h99 h100 h101 h102 hq27) (cwV 2 hts gX11_two_X11_pair rfl rfl rfl (by decide +kernel) ⟨Nat.le_of_ble_eq_true rfl, Nat.le_of_ble_eq_true rfl⟩) (preV_of hK hP (by omega) h86 rfl) rfl rfl hl.1 rfl (lv_room (Nat.le_of_ble_eq_true rfl)) dX11_two_104 ⟨Nat.le_of_ble_eq_true rfl, Nat.le_of_ble_eq_true rfl⟩) hA hP hS (fun H locs hP hS => ?_)
                      refine lv_goto (tgt := 111) hx hb dX11_two_107 (by decide) ?_
                      obtain rfl := Option.some.inj hf
                      exact jnq19 C H locs ls hP hS h86 h89 h90 h92 h93 h94 h95 h96 h97 h98 h99 h100 h101 h102 (lv_sub hl [2, 3, 4, 5, 6, 7, 8, 1, 0] rfl)
          refine key48 _ (fun x12 x13 C H locs ls hP hS h86 h89 h90 h92 h93 h94 h95 h96 h97 h98 h99 h100 h101 h102 hl hf => ?_) FU x9 0 C H locs ls hP hS h86 h89 h90 h92 h93 h94 h95 h96 h97 h98 h99 h100 h101 h102 (lv_sub hl [3, 4, 5, 6, 2, 1, 0] rfl) hf
          refine lv_lload hx hb dX11_two_120 (lv_at hl 5 rfl) ?_
          refine lv_lconst (v := 0) hx hb dX11_two_122 (by decide) ?_
          refine W.lcmp hx hb dX11_two_123 ?_
          refine lv_if_ne (tgt := 133) hx hb dX11_two_124 (by decide) (fun c28 => ?_) (fun c28 => ?_)
          · have hf := ie_e c28 hf
            refine lv_aload_n hx hb dX11_two_133 rfl (lv_at hl 0 rfl) ?_
            refine lv_iload_n hx hb dX11_two_134 rfl (lv_at hl 1 rfl) ?_
            refine lv_iload_n hx hb dX11_two_135 rfl (lv_at hl 2 rfl) ?_
            obtain ⟨q29, hq29, hf⟩ := bd_e hf
            refine k_lR (va_runV (C := RX11) (As := [.int p0, .int p1]) (rest := []) ⟨hx, hb, hml, hown, hts⟩ (c_X11_pair (l := l) (sz := H.size) (p0 := p0) (p1 := p1) hN h86 h89 h90 h92 h93 h94 h95 h96 h97 h98 h99 h100 h101 h102 hq29) (cwV 2 hts gX11_two_X11_pair rfl rfl rfl (by decide +kernel) ⟨Nat.le_of_ble_eq_true rfl, Nat.le_of_ble_eq_true rfl⟩) (preV_of hK hP (by omega) h86 rfl) rfl rfl hl.1 rfl (lv_room (Nat.le_of_ble_eq_true rfl)) dX11_two_136 ⟨Nat.le_of_ble_eq_true rfl, Nat.le_of_ble_eq_true rfl⟩) hA hP hS (fun H locs hP hS => ?_)
            refine lv_lload hx hb dX11_two_139 (lv_at hl 5 rfl) ?_
            refine lv_iload_n hx hb dX11_two_141 rfl (lv_at hl 3 rfl) ?_
            obtain ⟨q30, hq30, hf⟩ := bd_e hf
            refine k_lR (va_runS (As := [.long q29, .long x12, .int p2]) (rest := []) ⟨hx, hb, hml, hown, hts⟩ (c_X11_lowest (l := l) (sz := H.size) (p0 := q29) (p1 := x12) (p2 := p2) hq30) (va_cwS 3 hts gX11_two_X11_lowest rfl rfl rfl (by decide +kernel) ⟨Nat.le_of_ble_eq_true rfl, Nat.le_of_ble_eq_true rfl⟩) preS0 rfl rfl hl.1 rfl (lv_room (Nat.le_of_ble_eq_true rfl)) dX11_two_142 ⟨Nat.le_of_ble_eq_true rfl, Nat.le_of_ble_eq_true rfl⟩) hA hP hS (fun H locs hP hS => ?_)
            obtain rfl := Option.some.inj hf
            rw [← hQ]
            exact e_lR hx hb hr rfl hS hlocks dX11_two_145
          · have hf := it_e c28 hf
            refine lv_ldc2 (own := RX11) hx hb hown k1 dX11_two_127 ?_
            refine lv_goto (tgt := 145) hx hb dX11_two_130 (by decide) ?_
            obtain rfl := Option.some.inj hf
            rw [← hQ]
            exact e_lR hx hb hr rfl hS hlocks dX11_two_145
        · have hf := it_e c7 hf
          refine lv_ldc2 (own := RX11) hx hb hown k2 dX11_two_32 ?_
          obtain rfl := Option.some.inj hf
          rw [← hQ]
          exact e_lR hx hb hr rfl hS hlocks dX11_two_35
      · have hf := it_e c5 hf
        refine lv_ldc2 (own := RX11) hx hb hown k0 dX11_two_21 ?_
        obtain rfl := Option.some.inj hf
        rw [← hQ]
        exact e_lR hx hb hr rfl hS hlocks dX11_two_24

def LX11_worth_75 (p0 : Int32) (p1 : Int32) (p2 : Int32) (p3 : Int32) (m_down : Nat → Int32) (m_min : Nat → Int32) (m_gone : Nat → Int32) (m_flow : Nat → Int32) (m_lik : Nat → Int32) (m_str : Nat → Int32) (m_from : Nat → Int32) (m_to : Nat → Int32) (m_rain : Nat → Int32) (m_tell : Nat → Int32) (m_fy : Nat → Int32) (m_fn : Nat → Int32) (m_finds : Nat → Int32) (m_there : Int32) (m_blank : Int32) (m_fm : Int32) (q9 : Int32) (ko : Int64 → Int32 → Option (Int64)) : Nat → Int64 → Int32 → Option (Int64)
  | 0, _, _ => none
  | n + 1, x13, x14 =>
    if 12 ≤ x14 then
      ko x13 x14
    else
      (f_X11_has q9 x14).bind fun q18 =>
      (if q18 = 0 then
        some ((0 : Int64))
      else
        (f_X11_thoughtOf x14 m_down m_min m_gone m_flow m_lik m_str m_from m_to m_rain m_tell m_fy m_fn m_finds m_there m_blank m_fm).bind fun q23 =>
        (f_X11_shouldBy x14 (-1) (-1) p0 p1 p2 p3 m_down m_min m_gone m_flow m_str m_from m_to m_rain m_tell m_there).bind fun q24 =>
        (f_X11_yes p0 q24 m_fy m_fn).bind fun q25 =>
        some ((q23 * (Int32.toInt64 q25))) : Option (Int64)).bind fun q19 =>
      lt ((x13 + q19) : Int64) fun x20 =>
      lt (x14 + 1 : Int32) fun x21 =>
      LX11_worth_75 p0 p1 p2 p3 m_down m_min m_gone m_flow m_lik m_str m_from m_to m_rain m_tell m_fy m_fn m_finds m_there m_blank m_fm q9 ko n x20 x21
theorem LX11_worth_75_z (p0 : Int32) (p1 : Int32) (p2 : Int32) (p3 : Int32) (m_down : Nat → Int32) (m_min : Nat → Int32) (m_gone : Nat → Int32) (m_flow : Nat → Int32) (m_lik : Nat → Int32) (m_str : Nat → Int32) (m_from : Nat → Int32) (m_to : Nat → Int32) (m_rain : Nat → Int32) (m_tell : Nat → Int32) (m_fy : Nat → Int32) (m_fn : Nat → Int32) (m_finds : Nat → Int32) (m_there : Int32) (m_blank : Int32) (m_fm : Int32) (q9 : Int32) (ko : Int64 → Int32 → Option (Int64)) (x13 : Int64) (x14 : Int32) : LX11_worth_75 p0 p1 p2 p3 m_down m_min m_gone m_flow m_lik m_str m_from m_to m_rain m_tell m_fy m_fn m_finds m_there m_blank m_fm q9 ko 0 x13 x14 = none := rfl
theorem LX11_worth_75_s (p0 : Int32) (p1 : Int32) (p2 : Int32) (p3 : Int32) (m_down : Nat → Int32) (m_min : Nat → Int32) (m_gone : Nat → Int32) (m_flow : Nat → Int32) (m_lik : Nat → Int32) (m_str : Nat → Int32) (m_from : Nat → Int32) (m_to : Nat → Int32) (m_rain : Nat → Int32) (m_tell : Nat → Int32) (m_fy : Nat → Int32) (m_fn : Nat → Int32) (m_finds : Nat → Int32) (m_there : Int32) (m_blank : Int32) (m_fm : Int32) (q9 : Int32) (ko : Int64 → Int32 → Option (Int64)) (n : Nat) (x13 : Int64) (x14 : Int32) : LX11_worth_75 p0 p1 p2 p3 m_down m_min m_gone m_flow m_lik m_str m_from m_to m_rain m_tell m_fy m_fn m_finds m_there m_blank m_fm q9 ko (n + 1) x13 x14 =
    if 12 ≤ x14 then
      ko x13 x14
    else
      (f_X11_has q9 x14).bind fun q18 =>
      (if q18 = 0 then
        some ((0 : Int64))
      else
        (f_X11_thoughtOf x14 m_down m_min m_gone m_flow m_lik m_str m_from m_to m_rain m_tell m_fy m_fn m_finds m_there m_blank m_fm).bind fun q23 =>
        (f_X11_shouldBy x14 (-1) (-1) p0 p1 p2 p3 m_down m_min m_gone m_flow m_str m_from m_to m_rain m_tell m_there).bind fun q24 =>
        (f_X11_yes p0 q24 m_fy m_fn).bind fun q25 =>
        some ((q23 * (Int32.toInt64 q25))) : Option (Int64)).bind fun q19 =>
      lt ((x13 + q19) : Int64) fun x20 =>
      lt (x14 + 1 : Int32) fun x21 =>
      LX11_worth_75 p0 p1 p2 p3 m_down m_min m_gone m_flow m_lik m_str m_from m_to m_rain m_tell m_fy m_fn m_finds m_there m_blank m_fm q9 ko n x20 x21 := rfl
def f_X11_worth (p0 : Int32) (p1 : Int32) (p2 : Int32) (p3 : Int32) (p4 : Int32) (m_down : Nat → Int32) (m_min : Nat → Int32) (m_gone : Nat → Int32) (m_flow : Nat → Int32) (m_lik : Nat → Int32) (m_str : Nat → Int32) (m_from : Nat → Int32) (m_to : Nat → Int32) (m_rain : Nat → Int32) (m_tell : Nat → Int32) (m_fy : Nat → Int32) (m_fn : Nat → Int32) (m_finds : Nat → Int32) (m_there : Int32) (m_blank : Int32) (m_fm : Int32) : Option (Int64) :=
  (f_X11_isCup p0).bind fun q1 =>
  if q1 = 0 then
    some ((-2 : Int64))
  else
    (f_X11_isFill p1 p2 p3 m_there).bind fun q3 =>
    if q3 = 0 then
      some ((-3 : Int64))
    else
      (f_X11_isPart p4).bind fun q5 =>
      if q5 = 0 then
        some ((-3 : Int64))
      else
        (f_X11_allThought m_down m_min m_gone m_flow m_lik m_str m_from m_to m_rain m_tell m_fy m_fn m_finds m_there m_blank m_fm).bind fun q7 =>
        if (lg_cmp q7 (0 : Int64)) = 0 then
          some ((-4 : Int64))
        else
          (f_X11_sources m_lik m_there).bind fun q9 =>
          (f_X11_thoughtOf (-1) m_down m_min m_gone m_flow m_lik m_str m_from m_to m_rain m_tell m_fy m_fn m_finds m_there m_blank m_fm).bind fun q10 =>
          (f_X11_yes p0 0 m_fy m_fn).bind fun q11 =>
          lt ((q10 * (Int32.toInt64 q11)) : Int64) fun x12 =>
          LX11_worth_75 p0 p1 p2 p3 m_down m_min m_gone m_flow m_lik m_str m_from m_to m_rain m_tell m_fy m_fn m_finds m_there m_blank m_fm q9 (fun x15 x16 =>
            (f_X11_lowest x15 ((10 : Int64) * q7) p4).bind fun q26 =>
            some (q26)) FU x12 0
abbrev rmX11_worth : Room := { frames := 8, cells := 0, slots := 0, locals := 199 }
set_option maxHeartbeats 4000000 in
set_option maxRecDepth 100000 in
theorem c_X11_worth {l : Launch} {D : va_G} {g : Nat → ClassId} {N : Nat} {ad : Nat → Nat} {C : Nat → va_E} {sz : Nat} {m_len : Int32} {m_rm : Int32} {m_there : Int32} {m_lift : Int32} {m_blank : Int32} {m_fm : Int32} {m_at : Int32} {m_pl : Int32} {m_end : Int32} {m_seed : Int32} {m_down : Nat → Int32} {m_min : Nat → Int32} {m_gone : Nat → Int32} {m_flow : Nat → Int32} {m_lik : Nat → Int32} {m_str : Nat → Int32} {m_from : Nat → Int32} {m_to : Nat → Int32} {m_rain : Nat → Int32} {m_tell : Nat → Int32} {m_fy : Nat → Int32} {m_fn : Nat → Int32} {m_finds : Nat → Int32} {p0 : Int32} {p1 : Int32} {p2 : Int32} {p3 : Int32} {p4 : Int32} {rr : Int64} (hN : 109 ≤ N) (h86 : C 86 = .inr (11, [.ref (ad 87), .int m_len, .ref (ad 88), .int m_rm, .int m_there, .ref (ad 89), .ref (ad 90), .ref (ad 91), .ref (ad 92), .ref (ad 93), .ref (ad 94), .ref (ad 95), .ref (ad 96), .ref (ad 97), .ref (ad 98), .ref (ad 99), .ref (ad 100), .ref (ad 101), .int m_lift, .int m_blank, .ref (ad 102), .int m_fm, .int m_at, .int m_pl, .int m_end, .ref (ad 103), .ref (ad 104), .ref (ad 105), .ref (ad 106), .ref (ad 107), .ref (ad 108), .int m_seed])) (h89 : C 89 = aI g 12 m_down) (h90 : C 90 = aI g 12 m_min) (h92 : C 92 = aI g 12 m_gone) (h93 : C 93 = aI g 12 m_flow) (h94 : C 94 = aI g 12 m_lik) (h95 : C 95 = aI g 12 m_str) (h96 : C 96 = aI g 12 m_from) (h97 : C 97 = aI g 12 m_to) (h98 : C 98 = aI g 24 m_rain) (h99 : C 99 = aI g 4 m_tell) (h100 : C 100 = aI g 4 m_fy) (h101 : C 101 = aI g 4 m_fn) (h102 : C 102 = aI g 50 m_finds) (hf : f_X11_worth p0 p1 p2 p3 p4 m_down m_min m_gone m_flow m_lik m_str m_from m_to m_rain m_tell m_fy m_fn m_finds m_there m_blank m_fm = some rr) : Met l yX11_worth wsX11_worth rmX11_worth (PcW D g N ad C sz [.ref (ad 86), .int p0, .int p1, .int p2, .int p3, .int p4]) (QlR sz rr) 0 0 (An sz) := by
  refine Met.ofW (cc := cX11_worth) (maxL := 12) (ret := (some .long)) (by decide) rfl ?_
  intro p e s m args below meth c s₁ B hml hv
  obtain ⟨hav, hsz, hK, hP⟩ := hv
  subst hsz
  have hx := B.exec
  have hb := B.bytes
  have hr := B.returns
  have hts := atoms_spec (ws := wsX11_worth) B.pre
  have hown : s.vm.findClass RX11 = some m.cls := findClass_of_methodNamed B.named
  have hlocks := B.notSynchronized
  generalize hQ : MQ below (QlR s.heap.size rr) args s 0 0 (An s.heap.size) = QQ
  have hS : va_S (An s.heap.size) s.heap s.heap [] := va_S.rf
  have hA : ∀ q, s.heap.size ≤ q → (An s.heap.size) q := fun q h => h
  have k0 := hts (.constantLong RX11 237 (-3)) (List.mem_of_getElem? (i := 2) rfl)
  have k1 := hts (.constantLong RX11 253 (10)) (List.mem_of_getElem? (i := 4) rfl)
  have k2 := hts (.constantLong RX11 243 (-4)) (List.mem_of_getElem? (i := 3) rfl)
  have k3 := hts (.constantLong RX11 232 (-2)) (List.mem_of_getElem? (i := 1) rfl)
  have hE := lg_entry_eq m [.ref (ad 86), .int p0, .int p1, .int p2, .int p3, .int p4] 12
  rw [← hav] at hE
  rw [hE]
  have hl := lv_entry [.ref (ad 86), .int p0, .int p1, .int p2, .int p3, .int p4] (n := 12) (Nat.le_of_ble_eq_true rfl)
  generalize (lg_sl [.ref (ad 86), .int p0, .int p1, .int p2, .int p3, .int p4] ++ List.replicate (12 - (lg_sl [.ref (ad 86), .int p0, .int p1, .int p2, .int p3, .int p4]).length) Slot.unset).toArray = ls at hl ⊢
  have hl : lv_has ls 12 [(0, .ref (ad 86)), (1, .int p0), (2, .int p1), (3, .int p2), (4, .int p3), (5, .int p4)] := hl
  clear hE
  unfold f_X11_worth at hf
  suffices hgo : ∀ (H : Heap) (locs : List Loc), va_P D vwCl (wd N ad C) H → va_S (An s.heap.size) s.heap H locs → W p l e (headSpec wsX11_worth rmX11_worth).room s m args below meth c H locs 0 0 QQ (F0 m 0 ls []) from hgo s.heap [] hP hS
  clear hS hP
  intro H locs hP hS
  refine lv_iload_n hx hb dX11_worth_0 rfl (lv_at hl 1 rfl) ?_
  obtain ⟨q1, hq1, hf⟩ := bd_e hf
  refine k_iR (va_runS (As := [.int p0]) (rest := []) ⟨hx, hb, hml, hown, hts⟩ (c_X11_isCup (l := l) (sz := H.size) (p0 := p0) hq1) (va_cwS 1 hts gX11_worth_X11_isCup rfl rfl rfl (by decide +kernel) ⟨Nat.le_of_ble_eq_true rfl, Nat.le_of_ble_eq_true rfl⟩) preS0 rfl rfl hl.1 rfl (lv_room (Nat.le_of_ble_eq_true rfl)) dX11_worth_1 ⟨Nat.le_of_ble_eq_true rfl, Nat.le_of_ble_eq_true rfl⟩) hA hP hS (fun H locs hP hS hbz_q1 => ?_)
  refine lv_if_ne (tgt := 11) hx hb dX11_worth_4 (by decide) (fun c2 => ?_) (fun c2 => ?_)
  · have hf := ie_e c2 hf
    refine lv_aload_n hx hb dX11_worth_11 rfl (lv_at hl 0 rfl) ?_
    refine lv_iload_n hx hb dX11_worth_12 rfl (lv_at hl 2 rfl) ?_
    refine lv_iload_n hx hb dX11_worth_13 rfl (lv_at hl 3 rfl) ?_
    refine lv_iload hx hb dX11_worth_14 (lv_at hl 4 rfl) ?_
    obtain ⟨q3, hq3, hf⟩ := bd_e hf
    refine k_iR (va_runV (C := RX11) (As := [.int p1, .int p2, .int p3]) (rest := []) ⟨hx, hb, hml, hown, hts⟩ (c_X11_isFill (l := l) (sz := H.size) (p0 := p1) (p1 := p2) (p2 := p3) hN h86 hq3) (cwV 3 hts gX11_worth_X11_isFill rfl rfl rfl (by decide +kernel) ⟨Nat.le_of_ble_eq_true rfl, Nat.le_of_ble_eq_true rfl⟩) (preV_of hK hP (by omega) h86 rfl) rfl rfl hl.1 rfl (lv_room (Nat.le_of_ble_eq_true rfl)) dX11_worth_16 ⟨Nat.le_of_ble_eq_true rfl, Nat.le_of_ble_eq_true rfl⟩) hA hP hS (fun H locs hP hS hbz_q3 => ?_)
    refine lv_if_eq (tgt := 30) hx hb dX11_worth_19 (by decide) (fun c4 => ?_) (fun c4 => ?_)
    · have hf := it_e c4 hf
      refine lv_ldc2 (own := RX11) hx hb hown k0 dX11_worth_30 ?_
      obtain rfl := Option.some.inj hf
      rw [← hQ]
      exact e_lR hx hb hr rfl hS hlocks dX11_worth_33
    · have hf := ie_e c4 hf
      refine lv_iload hx hb dX11_worth_22 (lv_at hl 5 rfl) ?_
      obtain ⟨q5, hq5, hf⟩ := bd_e hf
      refine k_iR (va_runS (As := [.int p4]) (rest := []) ⟨hx, hb, hml, hown, hts⟩ (c_X11_isPart (l := l) (sz := H.size) (p0 := p4) hq5) (va_cwS 1 hts gX11_worth_X11_isPart rfl rfl rfl (by decide +kernel) ⟨Nat.le_of_ble_eq_true rfl, Nat.le_of_ble_eq_true rfl⟩) preS0 rfl rfl hl.1 rfl (lv_room (Nat.le_of_ble_eq_true rfl)) dX11_worth_24 ⟨Nat.le_of_ble_eq_true rfl, Nat.le_of_ble_eq_true rfl⟩) hA hP hS (fun H locs hP hS hbz_q5 => ?_)
      refine lv_if_ne (tgt := 34) hx hb dX11_worth_27 (by decide) (fun c6 => ?_) (fun c6 => ?_)
      · have hf := ie_e c6 hf
        refine lv_aload_n hx hb dX11_worth_34 rfl (lv_at hl 0 rfl) ?_
        obtain ⟨q7, hq7, hf⟩ := bd_e hf
        refine k_lR (va_runV (C := RX11) (As := []) (rest := []) ⟨hx, hb, hml, hown, hts⟩ (c_X11_allThought (l := l) (sz := H.size)  hN h86 h89 h90 h92 h93 h94 h95 h96 h97 h98 h99 h100 h101 h102 hq7) (cwV 0 hts gX11_worth_X11_allThought rfl rfl rfl (by decide +kernel) ⟨Nat.le_of_ble_eq_true rfl, Nat.le_of_ble_eq_true rfl⟩) (preV_of hK hP (by omega) h86 rfl) rfl rfl hl.1 rfl (lv_room (Nat.le_of_ble_eq_true rfl)) dX11_worth_35 ⟨Nat.le_of_ble_eq_true rfl, Nat.le_of_ble_eq_true rfl⟩) hA hP hS (fun H locs hP hS => ?_)
        refine lv_lstore (lv' := [(6, .long q7), (0, .ref (ad 86)), (1, .int p0), (2, .int p1), (3, .int p2), (4, .int p3), (5, .int p4)]) hx hb dX11_worth_38 hl (by decide) rfl (fun ls hl => ?_)
        refine lv_lload hx hb dX11_worth_40 (lv_at hl 0 rfl) ?_
        refine lv_lconst (v := 0) hx hb dX11_worth_42 (by decide) ?_
        refine W.lcmp hx hb dX11_worth_43 ?_
        refine lv_if_ne (tgt := 51) hx hb dX11_worth_44 (by decide) (fun c8 => ?_) (fun c8 => ?_)
        · have hf := ie_e c8 hf
          refine lv_aload_n hx hb dX11_worth_51 rfl (lv_at hl 1 rfl) ?_
          obtain ⟨q9, hq9, hf⟩ := bd_e hf
          refine k_iR (va_runV (C := RX11) (As := []) (rest := []) ⟨hx, hb, hml, hown, hts⟩ (c_X11_sources (l := l) (sz := H.size)  hN h86 h94 hq9) (cwV 0 hts gX11_worth_X11_sources rfl rfl rfl (by decide +kernel) ⟨Nat.le_of_ble_eq_true rfl, Nat.le_of_ble_eq_true rfl⟩) (preV_of hK hP (by omega) h86 rfl) rfl rfl hl.1 rfl (lv_room (Nat.le_of_ble_eq_true rfl)) dX11_worth_52 ⟨Nat.le_of_ble_eq_true rfl, Nat.le_of_ble_eq_true rfl⟩) hA hP hS (fun H locs hP hS hbz_q9 => ?_)
          refine lv_istore (lv' := [(8, .int q9), (6, .long q7), (0, .ref (ad 86)), (1, .int p0), (2, .int p1), (3, .int p2), (4, .int p3), (5, .int p4)]) hx hb dX11_worth_55 hl (by decide) rfl (fun ls hl => ?_)
          refine lv_aload_n hx hb dX11_worth_57 rfl (lv_at hl 2 rfl) ?_
          refine lv_iconst (v := (-1)) hx hb dX11_worth_58 (by decide) ?_
          obtain ⟨q10, hq10, hf⟩ := bd_e hf
          refine k_lR (va_runV (C := RX11) (As := [.int (-1)]) (rest := []) ⟨hx, hb, hml, hown, hts⟩ (c_X11_thoughtOf (l := l) (sz := H.size) (p0 := (-1)) hN h86 h89 h90 h92 h93 h94 h95 h96 h97 h98 h99 h100 h101 h102 hq10) (cwV 1 hts gX11_worth_X11_thoughtOf rfl rfl rfl (by decide +kernel) ⟨Nat.le_of_ble_eq_true rfl, Nat.le_of_ble_eq_true rfl⟩) (preV_of hK hP (by omega) h86 rfl) rfl rfl hl.1 rfl (lv_room (Nat.le_of_ble_eq_true rfl)) dX11_worth_59 ⟨Nat.le_of_ble_eq_true rfl, Nat.le_of_ble_eq_true rfl⟩) hA hP hS (fun H locs hP hS => ?_)
          refine lv_aload_n hx hb dX11_worth_62 rfl (lv_at hl 2 rfl) ?_
          refine lv_iload_n hx hb dX11_worth_63 rfl (lv_at hl 3 rfl) ?_
          refine lv_iconst (v := 0) hx hb dX11_worth_64 (by decide) ?_
          obtain ⟨q11, hq11, hf⟩ := bd_e hf
          refine k_iR (va_runV (C := RX11) (As := [.int p0, .int 0]) (rest := [.long q10]) ⟨hx, hb, hml, hown, hts⟩ (c_X11_yes (l := l) (sz := H.size) (p0 := p0) (p1 := 0) hN bz0 h86 h100 h101 hq11) (cwV 2 hts gX11_worth_X11_yes rfl rfl rfl (by decide +kernel) ⟨Nat.le_of_ble_eq_true rfl, Nat.le_of_ble_eq_true rfl⟩) (preV_of hK hP (by omega) h86 rfl) rfl rfl hl.1 rfl (lv_room (Nat.le_of_ble_eq_true rfl)) dX11_worth_65 ⟨Nat.le_of_ble_eq_true rfl, Nat.le_of_ble_eq_true rfl⟩) hA hP hS (fun H locs hP hS hbz_q11 => ?_)
          refine lv_i2l hx hb dX11_worth_68 rfl ?_
          refine lv_lmul hx hb dX11_worth_69 ?_
          obtain ⟨x12, ex12, hf⟩ := lt_e hf
          refine tp_l ex12 ?_
          refine lv_lstore (lv' := [(9, .long x12), (8, .int q9), (6, .long q7), (0, .ref (ad 86)), (1, .int p0), (2, .int p1), (3, .int p2), (4, .int p3), (5, .int p4)]) hx hb dX11_worth_70 hl (by decide) rfl (fun ls hl => ?_)
          refine lv_iconst (v := 0) hx hb dX11_worth_72 (by decide) ?_
          refine lv_istore (lv' := [(11, .int 0), (9, .long x12), (8, .int q9), (6, .long q7), (0, .ref (ad 86)), (1, .int p0), (2, .int p1), (3, .int p2), (4, .int p3), (5, .int p4)]) hx hb dX11_worth_73 hl (by decide) rfl (fun ls hl => ?_)
          have key75 : ∀ (ko : Int64 → Int32 → Option (Int64)), (∀ (x15 : Int64) (x16 : Int32) (C : Nat → va_E) (H : Heap) (locs : List Loc) (ls : Array Slot), va_P D vwCl (wd N ad C) H → va_S (An s.heap.size) s.heap H locs → C 86 = .inr (11, [.ref (ad 87), .int m_len, .ref (ad 88), .int m_rm, .int m_there, .ref (ad 89), .ref (ad 90), .ref (ad 91), .ref (ad 92), .ref (ad 93), .ref (ad 94), .ref (ad 95), .ref (ad 96), .ref (ad 97), .ref (ad 98), .ref (ad 99), .ref (ad 100), .ref (ad 101), .int m_lift, .int m_blank, .ref (ad 102), .int m_fm, .int m_at, .int m_pl, .int m_end, .ref (ad 103), .ref (ad 104), .ref (ad 105), .ref (ad 106), .ref (ad 107), .ref (ad 108), .int m_seed]) → C 89 = aI g 12 m_down → C 90 = aI g 12 m_min → C 92 = aI g 12 m_gone → C 93 = aI g 12 m_flow → C 94 = aI g 12 m_lik → C 95 = aI g 12 m_str → C 96 = aI g 12 m_from → C 97 = aI g 12 m_to → C 98 = aI g 24 m_rain → C 99 = aI g 4 m_tell → C 100 = aI g 4 m_fy → C 101 = aI g 4 m_fn → C 102 = aI g 50 m_finds → lv_has ls 12 [(0, .ref (ad 86)), (1, .int p0), (2, .int p1), (3, .int p2), (4, .int p3), (5, .int p4), (6, .long q7), (8, .int q9), (9, .long x15), (11, .int x16)] → ko x15 x16 = some rr → W p l e (headSpec wsX11_worth rmX11_worth).room s m args below meth c H locs 0 0 QQ (F0 m 133 ls [])) → ∀ (n : Nat) (x13 : Int64) (x14 : Int32) (C : Nat → va_E) (H : Heap) (locs : List Loc) (ls : Array Slot), va_P D vwCl (wd N ad C) H → va_S (An s.heap.size) s.heap H locs → C 86 = .inr (11, [.ref (ad 87), .int m_len, .ref (ad 88), .int m_rm, .int m_there, .ref (ad 89), .ref (ad 90), .ref (ad 91), .ref (ad 92), .ref (ad 93), .ref (ad 94), .ref (ad 95), .ref (ad 96), .ref (ad 97), .ref (ad 98), .ref (ad 99), .ref (ad 100), .ref (ad 101), .int m_lift, .int m_blank, .ref (ad 102), .int m_fm, .int m_at, .int m_pl, .int m_end, .ref (ad 103), .ref (ad 104), .ref (ad 105), .ref (ad 106), .ref (ad 107), .ref (ad 108), .int m_seed]) → C 89 = aI g 12 m_down → C 90 = aI g 12 m_min → C 92 = aI g 12 m_gone → C 93 = aI g 12 m_flow → C 94 = aI g 12 m_lik → C 95 = aI g 12 m_str → C 96 = aI g 12 m_from → C 97 = aI g 12 m_to → C 98 = aI g 24 m_rain → C 99 = aI g 4 m_tell → C 100 = aI g 4 m_fy → C 101 = aI g 4 m_fn → C 102 = aI g 50 m_finds → lv_has ls 12 [(0, .ref (ad 86)), (1, .int p0), (2, .int p1), (3, .int p2), (4, .int p3), (5, .int p4), (6, .long q7), (8, .int q9), (9, .long x13), (11, .int x14)] → LX11_worth_75 p0 p1 p2 p3 m_down m_min m_gone m_flow m_lik m_str m_from m_to m_rain m_tell m_fy m_fn m_finds m_there m_blank m_fm q9 ko n x13 x14 = some rr → W p l e (headSpec wsX11_worth rmX11_worth).room s m args below meth c H locs 0 0 QQ (F0 m 75 ls []) := by
            intro ko hko n
            induction n with
            | zero =>
              intro x13 x14 C H locs ls hP hS h86 h89 h90 h92 h93 h94 h95 h96 h97 h98 h99 h100 h101 h102 hl hf
              rw [LX11_worth_75_z] at hf
              cases hf
            | succ n ih =>
              intro x13 x14 C H locs ls hP hS h86 h89 h90 h92 h93 h94 h95 h96 h97 h98 h99 h100 h101 h102 hl hf
              rw [LX11_worth_75_s] at hf
              refine lv_iload hx hb dX11_worth_75 (lv_at hl 9 rfl) ?_
              refine lv_bipush (v := 12) hx hb dX11_worth_77 (by decide) ?_
              refine lv_icmp_ge (tgt := 133) hx hb dX11_worth_79 (by decide) (fun c17 => ?_) (fun c17 => ?_)
              · have hf := it_e c17 hf
                exact hko x13 x14 C H locs ls hP hS h86 h89 h90 h92 h93 h94 h95 h96 h97 h98 h99 h100 h101 h102 (lv_sub hl [0, 1, 2, 3, 4, 5, 6, 7, 8, 9] rfl) hf
              · have hf := ie_e c17 hf
                refine lv_lload hx hb dX11_worth_82 (lv_at hl 8 rfl) ?_
                refine lv_iload hx hb dX11_worth_84 (lv_at hl 7 rfl) ?_
                refine lv_iload hx hb dX11_worth_86 (lv_at hl 9 rfl) ?_
                obtain ⟨q18, hq18, hf⟩ := bd_e hf
                refine k_iR (va_runS (As := [.int q9, .int x14]) (rest := [.long x13]) ⟨hx, hb, hml, hown, hts⟩ (c_X11_has (l := l) (sz := H.size) (p0 := q9) (p1 := x14) hq18) (va_cwS 2 hts gX11_worth_X11_has rfl rfl rfl (by decide +kernel) ⟨Nat.le_of_ble_eq_true rfl, Nat.le_of_ble_eq_true rfl⟩) preS0 rfl rfl hl.1 rfl (lv_room (Nat.le_of_ble_eq_true rfl)) dX11_worth_88 ⟨Nat.le_of_ble_eq_true rfl, Nat.le_of_ble_eq_true rfl⟩) hA hP hS (fun H locs hP hS hbz_q18 => ?_)
                obtain ⟨q19, htq19, hf⟩ := bd_e hf
                have jnq19 : ∀ (C : Nat → va_E) (H : Heap) (locs : List Loc) (ls : Array Slot), va_P D vwCl (wd N ad C) H → va_S (An s.heap.size) s.heap H locs → C 86 = .inr (11, [.ref (ad 87), .int m_len, .ref (ad 88), .int m_rm, .int m_there, .ref (ad 89), .ref (ad 90), .ref (ad 91), .ref (ad 92), .ref (ad 93), .ref (ad 94), .ref (ad 95), .ref (ad 96), .ref (ad 97), .ref (ad 98), .ref (ad 99), .ref (ad 100), .ref (ad 101), .int m_lift, .int m_blank, .ref (ad 102), .int m_fm, .int m_at, .int m_pl, .int m_end, .ref (ad 103), .ref (ad 104), .ref (ad 105), .ref (ad 106), .ref (ad 107), .ref (ad 108), .int m_seed]) → C 89 = aI g 12 m_down → C 90 = aI g 12 m_min → C 92 = aI g 12 m_gone → C 93 = aI g 12 m_flow → C 94 = aI g 12 m_lik → C 95 = aI g 12 m_str → C 96 = aI g 12 m_from → C 97 = aI g 12 m_to → C 98 = aI g 24 m_rain → C 99 = aI g 4 m_tell → C 100 = aI g 4 m_fy → C 101 = aI g 4 m_fn → C 102 = aI g 50 m_finds → lv_has ls 12 [(0, .ref (ad 86)), (1, .int p0), (2, .int p1), (3, .int p2), (4, .int p3), (5, .int p4), (6, .long q7), (8, .int q9), (9, .long x13), (11, .int x14)] → W p l e (headSpec wsX11_worth rmX11_worth).room s m args below meth c H locs 0 0 QQ (F0 m 124 ls [.long q19, .long x13]) := by
                  intro C H locs ls hP hS h86 h89 h90 h92 h93 h94 h95 h96 h97 h98 h99 h100 h101 h102 hl
                  refine lv_ladd hx hb dX11_worth_124 ?_
                  obtain ⟨x20, ex20, hf⟩ := lt_e hf
                  refine tp_l ex20 ?_
                  refine lv_lstore (lv' := [(9, .long x20), (0, .ref (ad 86)), (1, .int p0), (2, .int p1), (3, .int p2), (4, .int p3), (5, .int p4), (6, .long q7), (8, .int q9), (11, .int x14)]) hx hb dX11_worth_125 hl (by decide) rfl (fun ls hl => ?_)
                  obtain ⟨x21, ex21, hf⟩ := lt_e hf
                  refine lv_iinc (v := x21) (lv' := [(11, .int x21), (9, .long x20), (0, .ref (ad 86)), (1, .int p0), (2, .int p1), (3, .int p2), (4, .int p3), (5, .int p4), (6, .long q7), (8, .int q9)]) hx hb dX11_worth_127 hl (k := 9) rfl (by rw [ex21]; rfl) (by decide) rfl (fun ls hl => ?_)
                  refine lv_goto (tgt := 75) hx hb dX11_worth_130 (by decide) ?_
                  exact ih x20 x21 C H locs ls hP hS h86 h89 h90 h92 h93 h94 h95 h96 h97 h98 h99 h100 h101 h102 (lv_sub hl [2, 3, 4, 5, 6, 7, 8, 9, 1, 0] rfl) hf
                clear hf
                have hf := htq19
                refine lv_if_eq (tgt := 123) hx hb dX11_worth_91 (by decide) (fun c22 => ?_) (fun c22 => ?_)
                · have hf := it_e c22 hf
                  refine lv_lconst (v := 0) hx hb dX11_worth_123 (by decide) ?_
                  obtain rfl := Option.some.inj hf
                  exact jnq19 C H locs ls hP hS h86 h89 h90 h92 h93 h94 h95 h96 h97 h98 h99 h100 h101 h102 (lv_sub hl [0, 1, 2, 3, 4, 5, 6, 7, 8, 9] rfl)
                · have hf := ie_e c22 hf
                  refine lv_aload_n hx hb dX11_worth_94 rfl (lv_at hl 0 rfl) ?_
                  refine lv_iload hx hb dX11_worth_95 (lv_at hl 9 rfl) ?_
                  obtain ⟨q23, hq23, hf⟩ := bd_e hf
                  refine k_lR (va_runV (C := RX11) (As := [.int x14]) (rest := [.long x13]) ⟨hx, hb, hml, hown, hts⟩ (c_X11_thoughtOf (l := l) (sz := H.size) (p0 := x14) hN h86 h89 h90 h92 h93 h94 h95 h96 h97 h98 h99 h100 h101 h102 hq23) (cwV 1 hts gX11_worth_X11_thoughtOf rfl rfl rfl (by decide +kernel) ⟨Nat.le_of_ble_eq_true rfl, Nat.le_of_ble_eq_true rfl⟩) (preV_of hK hP (by omega) h86 rfl) rfl rfl hl.1 rfl (lv_room (Nat.le_of_ble_eq_true rfl)) dX11_worth_97 ⟨Nat.le_of_ble_eq_true rfl, Nat.le_of_ble_eq_true rfl⟩) hA hP hS (fun H locs hP hS => ?_)
                  refine lv_aload_n hx hb dX11_worth_100 rfl (lv_at hl 0 rfl) ?_
                  refine lv_iload_n hx hb dX11_worth_101 rfl (lv_at hl 1 rfl) ?_
                  refine lv_aload_n hx hb dX11_worth_102 rfl (lv_at hl 0 rfl) ?_
                  refine lv_iload hx hb dX11_worth_103 (lv_at hl 9 rfl) ?_
                  refine lv_iconst (v := (-1)) hx hb dX11_worth_105 (by decide) ?_
                  refine lv_iconst (v := (-1)) hx hb dX11_worth_106 (by decide) ?_
                  refine lv_iload_n hx hb dX11_worth_107 rfl (lv_at hl 1 rfl) ?_
                  refine lv_iload_n hx hb dX11_worth_108 rfl (lv_at hl 2 rfl) ?_
                  refine lv_iload_n hx hb dX11_worth_109 rfl (lv_at hl 3 rfl) ?_
                  refine lv_iload hx hb dX11_worth_110 (lv_at hl 4 rfl) ?_
                  obtain ⟨q24, hq24, hf⟩ := bd_e hf
                  refine k_iR (va_runV (C := RX11) (As := [.int x14, .int (-1), .int (-1), .int p0, .int p1, .int p2, .int p3]) (rest := [.int p0, .ref (ad 86), .long q23, .long x13]) ⟨hx, hb, hml, hown, hts⟩ (c_X11_shouldBy (l := l) (sz := H.size) (p0 := x14) (p1 := (-1)) (p2 := (-1)) (p3 := p0) (p4 := p1) (p5 := p2) (p6 := p3) hN h86 h89 h90 h92 h93 h95 h96 h97 h98 h99 hq24) (cwV 7 hts gX11_worth_X11_shouldBy rfl rfl rfl (by decide +kernel) ⟨Nat.le_of_ble_eq_true rfl, Nat.le_of_ble_eq_true rfl⟩) (preV_of hK hP (by omega) h86 rfl) rfl rfl hl.1 rfl (lv_room (Nat.le_of_ble_eq_true rfl)) dX11_worth_112 ⟨Nat.le_of_ble_eq_true rfl, Nat.le_of_ble_eq_true rfl⟩) hA hP hS (fun H locs hP hS hbz_q24 => ?_)
                  obtain ⟨q25, hq25, hf⟩ := bd_e hf
                  refine k_iR (va_runV (C := RX11) (As := [.int p0, .int q24]) (rest := [.long q23, .long x13]) ⟨hx, hb, hml, hown, hts⟩ (c_X11_yes (l := l) (sz := H.size) (p0 := p0) (p1 := q24) hN hbz_q24 h86 h100 h101 hq25) (cwV 2 hts gX11_worth_X11_yes rfl rfl rfl (by decide +kernel) ⟨Nat.le_of_ble_eq_true rfl, Nat.le_of_ble_eq_true rfl⟩) (preV_of hK hP (by omega) h86 rfl) rfl rfl hl.1 rfl (lv_room (Nat.le_of_ble_eq_true rfl)) dX11_worth_115 ⟨Nat.le_of_ble_eq_true rfl, Nat.le_of_ble_eq_true rfl⟩) hA hP hS (fun H locs hP hS hbz_q25 => ?_)
                  refine lv_i2l hx hb dX11_worth_118 rfl ?_
                  refine lv_lmul hx hb dX11_worth_119 ?_
                  refine lv_goto (tgt := 124) hx hb dX11_worth_120 (by decide) ?_
                  obtain rfl := Option.some.inj hf
                  exact jnq19 C H locs ls hP hS h86 h89 h90 h92 h93 h94 h95 h96 h97 h98 h99 h100 h101 h102 (lv_sub hl [0, 1, 2, 3, 4, 5, 6, 7, 8, 9] rfl)
          refine key75 _ (fun x15 x16 C H locs ls hP hS h86 h89 h90 h92 h93 h94 h95 h96 h97 h98 h99 h100 h101 h102 hl hf => ?_) FU x12 0 C H locs ls hP hS h86 h89 h90 h92 h93 h94 h95 h96 h97 h98 h99 h100 h101 h102 (lv_sub hl [4, 5, 6, 7, 8, 9, 3, 2, 1, 0] rfl) hf
          refine lv_lload hx hb dX11_worth_133 (lv_at hl 8 rfl) ?_
          refine lv_ldc2 (own := RX11) hx hb hown k1 dX11_worth_135 ?_
          refine lv_lload hx hb dX11_worth_138 (lv_at hl 6 rfl) ?_
          refine lv_lmul hx hb dX11_worth_140 ?_
          refine lv_iload hx hb dX11_worth_141 (lv_at hl 5 rfl) ?_
          obtain ⟨q26, hq26, hf⟩ := bd_e hf
          refine k_lR (va_runS (As := [.long x15, .long ((10 : Int64) * q7), .int p4]) (rest := []) ⟨hx, hb, hml, hown, hts⟩ (c_X11_lowest (l := l) (sz := H.size) (p0 := x15) (p1 := ((10 : Int64) * q7)) (p2 := p4) hq26) (va_cwS 3 hts gX11_worth_X11_lowest rfl rfl rfl (by decide +kernel) ⟨Nat.le_of_ble_eq_true rfl, Nat.le_of_ble_eq_true rfl⟩) preS0 rfl rfl hl.1 rfl (lv_room (Nat.le_of_ble_eq_true rfl)) dX11_worth_143 ⟨Nat.le_of_ble_eq_true rfl, Nat.le_of_ble_eq_true rfl⟩) hA hP hS (fun H locs hP hS => ?_)
          obtain rfl := Option.some.inj hf
          rw [← hQ]
          exact e_lR hx hb hr rfl hS hlocks dX11_worth_146
        · have hf := it_e c8 hf
          refine lv_ldc2 (own := RX11) hx hb hown k2 dX11_worth_47 ?_
          obtain rfl := Option.some.inj hf
          rw [← hQ]
          exact e_lR hx hb hr rfl hS hlocks dX11_worth_50
      · have hf := it_e c6 hf
        refine lv_ldc2 (own := RX11) hx hb hown k0 dX11_worth_30 ?_
        obtain rfl := Option.some.inj hf
        rw [← hQ]
        exact e_lR hx hb hr rfl hS hlocks dX11_worth_33
  · have hf := it_e c2 hf
    refine lv_ldc2 (own := RX11) hx hb hown k3 dX11_worth_7 ?_
    obtain rfl := Option.some.inj hf
    rw [← hQ]
    exact e_lR hx hb hr rfl hS hlocks dX11_worth_10

def LX11_likeliest_16 (m_down : Nat → Int32) (m_min : Nat → Int32) (m_gone : Nat → Int32) (m_flow : Nat → Int32) (m_lik : Nat → Int32) (m_str : Nat → Int32) (m_from : Nat → Int32) (m_to : Nat → Int32) (m_rain : Nat → Int32) (m_tell : Nat → Int32) (m_fy : Nat → Int32) (m_fn : Nat → Int32) (m_finds : Nat → Int32) (m_there : Int32) (m_blank : Int32) (m_fm : Int32) (q1 : Int32) (ko : Int32 → Int64 → Int32 → Option (Int32)) : Nat → Int32 → Int64 → Int32 → Option (Int32)
  | 0, _, _, _ => none
  | n + 1, x4, x5, x6 =>
    if 12 ≤ x6 then
      ko x4 x5 x6
    else
      (f_X11_has q1 x6).bind fun q11 =>
      (if q11 = 0 then
        some (x4, x5)
      else
        (f_X11_thoughtOf x6 m_down m_min m_gone m_flow m_lik m_str m_from m_to m_rain m_tell m_fy m_fn m_finds m_there m_blank m_fm).bind fun q15 =>
        if (lg_cmp q15 x5) ≤ 0 then
          some (x4, x5)
        else
          (f_X11_thoughtOf x6 m_down m_min m_gone m_flow m_lik m_str m_from m_to m_rain m_tell m_fy m_fn m_finds m_there m_blank m_fm).bind fun q17 =>
          some (x6, q17) : Option (Int32 × Int64)).bind fun q12 =>
      lt (x6 + 1 : Int32) fun x13 =>
      LX11_likeliest_16 m_down m_min m_gone m_flow m_lik m_str m_from m_to m_rain m_tell m_fy m_fn m_finds m_there m_blank m_fm q1 ko n q12.1 q12.2 x13
theorem LX11_likeliest_16_z (m_down : Nat → Int32) (m_min : Nat → Int32) (m_gone : Nat → Int32) (m_flow : Nat → Int32) (m_lik : Nat → Int32) (m_str : Nat → Int32) (m_from : Nat → Int32) (m_to : Nat → Int32) (m_rain : Nat → Int32) (m_tell : Nat → Int32) (m_fy : Nat → Int32) (m_fn : Nat → Int32) (m_finds : Nat → Int32) (m_there : Int32) (m_blank : Int32) (m_fm : Int32) (q1 : Int32) (ko : Int32 → Int64 → Int32 → Option (Int32)) (x4 : Int32) (x5 : Int64) (x6 : Int32) : LX11_likeliest_16 m_down m_min m_gone m_flow m_lik m_str m_from m_to m_rain m_tell m_fy m_fn m_finds m_there m_blank m_fm q1 ko 0 x4 x5 x6 = none := rfl
theorem LX11_likeliest_16_s (m_down : Nat → Int32) (m_min : Nat → Int32) (m_gone : Nat → Int32) (m_flow : Nat → Int32) (m_lik : Nat → Int32) (m_str : Nat → Int32) (m_from : Nat → Int32) (m_to : Nat → Int32) (m_rain : Nat → Int32) (m_tell : Nat → Int32) (m_fy : Nat → Int32) (m_fn : Nat → Int32) (m_finds : Nat → Int32) (m_there : Int32) (m_blank : Int32) (m_fm : Int32) (q1 : Int32) (ko : Int32 → Int64 → Int32 → Option (Int32)) (n : Nat) (x4 : Int32) (x5 : Int64) (x6 : Int32) : LX11_likeliest_16 m_down m_min m_gone m_flow m_lik m_str m_from m_to m_rain m_tell m_fy m_fn m_finds m_there m_blank m_fm q1 ko (n + 1) x4 x5 x6 =
    if 12 ≤ x6 then
      ko x4 x5 x6
    else
      (f_X11_has q1 x6).bind fun q11 =>
      (if q11 = 0 then
        some (x4, x5)
      else
        (f_X11_thoughtOf x6 m_down m_min m_gone m_flow m_lik m_str m_from m_to m_rain m_tell m_fy m_fn m_finds m_there m_blank m_fm).bind fun q15 =>
        if (lg_cmp q15 x5) ≤ 0 then
          some (x4, x5)
        else
          (f_X11_thoughtOf x6 m_down m_min m_gone m_flow m_lik m_str m_from m_to m_rain m_tell m_fy m_fn m_finds m_there m_blank m_fm).bind fun q17 =>
          some (x6, q17) : Option (Int32 × Int64)).bind fun q12 =>
      lt (x6 + 1 : Int32) fun x13 =>
      LX11_likeliest_16 m_down m_min m_gone m_flow m_lik m_str m_from m_to m_rain m_tell m_fy m_fn m_finds m_there m_blank m_fm q1 ko n q12.1 q12.2 x13 := rfl
def f_X11_likeliest (m_down : Nat → Int32) (m_min : Nat → Int32) (m_gone : Nat → Int32) (m_flow : Nat → Int32) (m_lik : Nat → Int32) (m_str : Nat → Int32) (m_from : Nat → Int32) (m_to : Nat → Int32) (m_rain : Nat → Int32) (m_tell : Nat → Int32) (m_fy : Nat → Int32) (m_fn : Nat → Int32) (m_finds : Nat → Int32) (m_there : Int32) (m_blank : Int32) (m_fm : Int32) : Option (Int32) :=
  (f_X11_sources m_lik m_there).bind fun q1 =>
  lt ((-1) : Int32) fun x2 =>
  (f_X11_thoughtOf (-1) m_down m_min m_gone m_flow m_lik m_str m_from m_to m_rain m_tell m_fy m_fn m_finds m_there m_blank m_fm).bind fun q3 =>
  LX11_likeliest_16 m_down m_min m_gone m_flow m_lik m_str m_from m_to m_rain m_tell m_fy m_fn m_finds m_there m_blank m_fm q1 (fun x7 x8 x9 =>
    some (x7)) FU x2 q3 0
abbrev rmX11_likeliest : Room := { frames := 7, cells := 0, slots := 0, locals := 175 }
set_option maxHeartbeats 4000000 in
set_option maxRecDepth 100000 in
theorem c_X11_likeliest {l : Launch} {D : va_G} {g : Nat → ClassId} {N : Nat} {ad : Nat → Nat} {C : Nat → va_E} {sz : Nat} {m_len : Int32} {m_rm : Int32} {m_there : Int32} {m_lift : Int32} {m_blank : Int32} {m_fm : Int32} {m_at : Int32} {m_pl : Int32} {m_end : Int32} {m_seed : Int32} {m_down : Nat → Int32} {m_min : Nat → Int32} {m_gone : Nat → Int32} {m_flow : Nat → Int32} {m_lik : Nat → Int32} {m_str : Nat → Int32} {m_from : Nat → Int32} {m_to : Nat → Int32} {m_rain : Nat → Int32} {m_tell : Nat → Int32} {m_fy : Nat → Int32} {m_fn : Nat → Int32} {m_finds : Nat → Int32}  {rr : Int32} (hN : 109 ≤ N) (h86 : C 86 = .inr (11, [.ref (ad 87), .int m_len, .ref (ad 88), .int m_rm, .int m_there, .ref (ad 89), .ref (ad 90), .ref (ad 91), .ref (ad 92), .ref (ad 93), .ref (ad 94), .ref (ad 95), .ref (ad 96), .ref (ad 97), .ref (ad 98), .ref (ad 99), .ref (ad 100), .ref (ad 101), .int m_lift, .int m_blank, .ref (ad 102), .int m_fm, .int m_at, .int m_pl, .int m_end, .ref (ad 103), .ref (ad 104), .ref (ad 105), .ref (ad 106), .ref (ad 107), .ref (ad 108), .int m_seed])) (h89 : C 89 = aI g 12 m_down) (h90 : C 90 = aI g 12 m_min) (h92 : C 92 = aI g 12 m_gone) (h93 : C 93 = aI g 12 m_flow) (h94 : C 94 = aI g 12 m_lik) (h95 : C 95 = aI g 12 m_str) (h96 : C 96 = aI g 12 m_from) (h97 : C 97 = aI g 12 m_to) (h98 : C 98 = aI g 24 m_rain) (h99 : C 99 = aI g 4 m_tell) (h100 : C 100 = aI g 4 m_fy) (h101 : C 101 = aI g 4 m_fn) (h102 : C 102 = aI g 50 m_finds) (hf : f_X11_likeliest m_down m_min m_gone m_flow m_lik m_str m_from m_to m_rain m_tell m_fy m_fn m_finds m_there m_blank m_fm = some rr) : Met l yX11_likeliest wsX11_likeliest rmX11_likeliest (PcW D g N ad C sz [.ref (ad 86)]) (QiR sz tP rr) 0 0 (An sz) := by
  refine Met.ofW (cc := cX11_likeliest) (maxL := 6) (ret := (some .int)) (by decide) rfl ?_
  intro p e s m args below meth c s₁ B hml hv
  obtain ⟨hav, hsz, hK, hP⟩ := hv
  subst hsz
  have hx := B.exec
  have hb := B.bytes
  have hr := B.returns
  have hts := atoms_spec (ws := wsX11_likeliest) B.pre
  have hown : s.vm.findClass RX11 = some m.cls := findClass_of_methodNamed B.named
  have hlocks := B.notSynchronized
  generalize hQ : MQ below (QiR s.heap.size tP rr) args s 0 0 (An s.heap.size) = QQ
  have hS : va_S (An s.heap.size) s.heap s.heap [] := va_S.rf
  have hA : ∀ q, s.heap.size ≤ q → (An s.heap.size) q := fun q h => h
  have hE := lg_entry_eq m [.ref (ad 86)] 6
  rw [← hav] at hE
  rw [hE]
  have hl := lv_entry [.ref (ad 86)] (n := 6) (Nat.le_of_ble_eq_true rfl)
  generalize (lg_sl [.ref (ad 86)] ++ List.replicate (6 - (lg_sl [.ref (ad 86)]).length) Slot.unset).toArray = ls at hl ⊢
  have hl : lv_has ls 6 [(0, .ref (ad 86))] := hl
  clear hE
  unfold f_X11_likeliest at hf
  suffices hgo : ∀ (H : Heap) (locs : List Loc), va_P D vwCl (wd N ad C) H → va_S (An s.heap.size) s.heap H locs → W p l e (headSpec wsX11_likeliest rmX11_likeliest).room s m args below meth c H locs 0 0 QQ (F0 m 0 ls []) from hgo s.heap [] hP hS
  clear hS hP
  intro H locs hP hS
  refine lv_aload_n hx hb dX11_likeliest_0 rfl (lv_at hl 0 rfl) ?_
  obtain ⟨q1, hq1, hf⟩ := bd_e hf
  refine k_iR (va_runV (C := RX11) (As := []) (rest := []) ⟨hx, hb, hml, hown, hts⟩ (c_X11_sources (l := l) (sz := H.size)  hN h86 h94 hq1) (cwV 0 hts gX11_likeliest_X11_sources rfl rfl rfl (by decide +kernel) ⟨Nat.le_of_ble_eq_true rfl, Nat.le_of_ble_eq_true rfl⟩) (preV_of hK hP (by omega) h86 rfl) rfl rfl hl.1 rfl (lv_room (Nat.le_of_ble_eq_true rfl)) dX11_likeliest_1 ⟨Nat.le_of_ble_eq_true rfl, Nat.le_of_ble_eq_true rfl⟩) hA hP hS (fun H locs hP hS hbz_q1 => ?_)
  refine lv_istore_n (lv' := [(1, .int q1), (0, .ref (ad 86))]) hx hb dX11_likeliest_4 rfl hl (by decide) rfl (fun ls hl => ?_)
  refine lv_iconst (v := (-1)) hx hb dX11_likeliest_5 (by decide) ?_
  obtain ⟨x2, ex2, hf⟩ := lt_e hf
  refine tp_i ex2 ?_
  refine lv_istore_n (lv' := [(2, .int x2), (1, .int q1), (0, .ref (ad 86))]) hx hb dX11_likeliest_6 rfl hl (by decide) rfl (fun ls hl => ?_)
  refine lv_aload_n hx hb dX11_likeliest_7 rfl (lv_at hl 2 rfl) ?_
  refine lv_iconst (v := (-1)) hx hb dX11_likeliest_8 (by decide) ?_
  obtain ⟨q3, hq3, hf⟩ := bd_e hf
  refine k_lR (va_runV (C := RX11) (As := [.int (-1)]) (rest := []) ⟨hx, hb, hml, hown, hts⟩ (c_X11_thoughtOf (l := l) (sz := H.size) (p0 := (-1)) hN h86 h89 h90 h92 h93 h94 h95 h96 h97 h98 h99 h100 h101 h102 hq3) (cwV 1 hts gX11_likeliest_X11_thoughtOf rfl rfl rfl (by decide +kernel) ⟨Nat.le_of_ble_eq_true rfl, Nat.le_of_ble_eq_true rfl⟩) (preV_of hK hP (by omega) h86 rfl) rfl rfl hl.1 rfl (lv_room (Nat.le_of_ble_eq_true rfl)) dX11_likeliest_9 ⟨Nat.le_of_ble_eq_true rfl, Nat.le_of_ble_eq_true rfl⟩) hA hP hS (fun H locs hP hS => ?_)
  refine lv_lstore_n (lv' := [(3, .long q3), (2, .int x2), (1, .int q1), (0, .ref (ad 86))]) hx hb dX11_likeliest_12 rfl hl (by decide) rfl (fun ls hl => ?_)
  refine lv_iconst (v := 0) hx hb dX11_likeliest_13 (by decide) ?_
  refine lv_istore (lv' := [(5, .int 0), (3, .long q3), (2, .int x2), (1, .int q1), (0, .ref (ad 86))]) hx hb dX11_likeliest_14 hl (by decide) rfl (fun ls hl => ?_)
  have key16 : ∀ (ko : Int32 → Int64 → Int32 → Option (Int32)), (∀ (x7 : Int32) (x8 : Int64) (x9 : Int32) (C : Nat → va_E) (H : Heap) (locs : List Loc) (ls : Array Slot), va_P D vwCl (wd N ad C) H → va_S (An s.heap.size) s.heap H locs → C 86 = .inr (11, [.ref (ad 87), .int m_len, .ref (ad 88), .int m_rm, .int m_there, .ref (ad 89), .ref (ad 90), .ref (ad 91), .ref (ad 92), .ref (ad 93), .ref (ad 94), .ref (ad 95), .ref (ad 96), .ref (ad 97), .ref (ad 98), .ref (ad 99), .ref (ad 100), .ref (ad 101), .int m_lift, .int m_blank, .ref (ad 102), .int m_fm, .int m_at, .int m_pl, .int m_end, .ref (ad 103), .ref (ad 104), .ref (ad 105), .ref (ad 106), .ref (ad 107), .ref (ad 108), .int m_seed]) → C 89 = aI g 12 m_down → C 90 = aI g 12 m_min → C 92 = aI g 12 m_gone → C 93 = aI g 12 m_flow → C 94 = aI g 12 m_lik → C 95 = aI g 12 m_str → C 96 = aI g 12 m_from → C 97 = aI g 12 m_to → C 98 = aI g 24 m_rain → C 99 = aI g 4 m_tell → C 100 = aI g 4 m_fy → C 101 = aI g 4 m_fn → C 102 = aI g 50 m_finds → lv_has ls 6 [(0, .ref (ad 86)), (1, .int q1), (2, .int x7), (3, .long x8), (5, .int x9)] → ko x7 x8 x9 = some rr → W p l e (headSpec wsX11_likeliest rmX11_likeliest).room s m args below meth c H locs 0 0 QQ (F0 m 59 ls [])) → ∀ (n : Nat) (x4 : Int32) (x5 : Int64) (x6 : Int32) (C : Nat → va_E) (H : Heap) (locs : List Loc) (ls : Array Slot), va_P D vwCl (wd N ad C) H → va_S (An s.heap.size) s.heap H locs → C 86 = .inr (11, [.ref (ad 87), .int m_len, .ref (ad 88), .int m_rm, .int m_there, .ref (ad 89), .ref (ad 90), .ref (ad 91), .ref (ad 92), .ref (ad 93), .ref (ad 94), .ref (ad 95), .ref (ad 96), .ref (ad 97), .ref (ad 98), .ref (ad 99), .ref (ad 100), .ref (ad 101), .int m_lift, .int m_blank, .ref (ad 102), .int m_fm, .int m_at, .int m_pl, .int m_end, .ref (ad 103), .ref (ad 104), .ref (ad 105), .ref (ad 106), .ref (ad 107), .ref (ad 108), .int m_seed]) → C 89 = aI g 12 m_down → C 90 = aI g 12 m_min → C 92 = aI g 12 m_gone → C 93 = aI g 12 m_flow → C 94 = aI g 12 m_lik → C 95 = aI g 12 m_str → C 96 = aI g 12 m_from → C 97 = aI g 12 m_to → C 98 = aI g 24 m_rain → C 99 = aI g 4 m_tell → C 100 = aI g 4 m_fy → C 101 = aI g 4 m_fn → C 102 = aI g 50 m_finds → lv_has ls 6 [(0, .ref (ad 86)), (1, .int q1), (2, .int x4), (3, .long x5), (5, .int x6)] → LX11_likeliest_16 m_down m_min m_gone m_flow m_lik m_str m_from m_to m_rain m_tell m_fy m_fn m_finds m_there m_blank m_fm q1 ko n x4 x5 x6 = some rr → W p l e (headSpec wsX11_likeliest rmX11_likeliest).room s m args below meth c H locs 0 0 QQ (F0 m 16 ls []) := by
    intro ko hko n
    induction n with
    | zero =>
      intro x4 x5 x6 C H locs ls hP hS h86 h89 h90 h92 h93 h94 h95 h96 h97 h98 h99 h100 h101 h102 hl hf
      rw [LX11_likeliest_16_z] at hf
      cases hf
    | succ n ih =>
      intro x4 x5 x6 C H locs ls hP hS h86 h89 h90 h92 h93 h94 h95 h96 h97 h98 h99 h100 h101 h102 hl hf
      rw [LX11_likeliest_16_s] at hf
      refine lv_iload hx hb dX11_likeliest_16 (lv_at hl 4 rfl) ?_
      refine lv_bipush (v := 12) hx hb dX11_likeliest_18 (by decide) ?_
      refine lv_icmp_ge (tgt := 59) hx hb dX11_likeliest_20 (by decide) (fun c10 => ?_) (fun c10 => ?_)
      · have hf := it_e c10 hf
        exact hko x4 x5 x6 C H locs ls hP hS h86 h89 h90 h92 h93 h94 h95 h96 h97 h98 h99 h100 h101 h102 (lv_sub hl [0, 1, 2, 3, 4] rfl) hf
      · have hf := ie_e c10 hf
        refine lv_iload_n hx hb dX11_likeliest_23 rfl (lv_at hl 1 rfl) ?_
        refine lv_iload hx hb dX11_likeliest_24 (lv_at hl 4 rfl) ?_
        obtain ⟨q11, hq11, hf⟩ := bd_e hf
        refine k_iR (va_runS (As := [.int q1, .int x6]) (rest := []) ⟨hx, hb, hml, hown, hts⟩ (c_X11_has (l := l) (sz := H.size) (p0 := q1) (p1 := x6) hq11) (va_cwS 2 hts gX11_likeliest_X11_has rfl rfl rfl (by decide +kernel) ⟨Nat.le_of_ble_eq_true rfl, Nat.le_of_ble_eq_true rfl⟩) preS0 rfl rfl hl.1 rfl (lv_room (Nat.le_of_ble_eq_true rfl)) dX11_likeliest_26 ⟨Nat.le_of_ble_eq_true rfl, Nat.le_of_ble_eq_true rfl⟩) hA hP hS (fun H locs hP hS hbz_q11 => ?_)
        obtain ⟨q12, htq12, hf⟩ := bd_e hf
        have jnq12 : ∀ (C : Nat → va_E) (H : Heap) (locs : List Loc) (ls : Array Slot), va_P D vwCl (wd N ad C) H → va_S (An s.heap.size) s.heap H locs → C 86 = .inr (11, [.ref (ad 87), .int m_len, .ref (ad 88), .int m_rm, .int m_there, .ref (ad 89), .ref (ad 90), .ref (ad 91), .ref (ad 92), .ref (ad 93), .ref (ad 94), .ref (ad 95), .ref (ad 96), .ref (ad 97), .ref (ad 98), .ref (ad 99), .ref (ad 100), .ref (ad 101), .int m_lift, .int m_blank, .ref (ad 102), .int m_fm, .int m_at, .int m_pl, .int m_end, .ref (ad 103), .ref (ad 104), .ref (ad 105), .ref (ad 106), .ref (ad 107), .ref (ad 108), .int m_seed]) → C 89 = aI g 12 m_down → C 90 = aI g 12 m_min → C 92 = aI g 12 m_gone → C 93 = aI g 12 m_flow → C 94 = aI g 12 m_lik → C 95 = aI g 12 m_str → C 96 = aI g 12 m_from → C 97 = aI g 12 m_to → C 98 = aI g 24 m_rain → C 99 = aI g 4 m_tell → C 100 = aI g 4 m_fy → C 101 = aI g 4 m_fn → C 102 = aI g 50 m_finds → lv_has ls 6 [(0, .ref (ad 86)), (1, .int q1), (2, .int q12.1), (3, .long q12.2), (5, .int x6)] → W p l e (headSpec wsX11_likeliest rmX11_likeliest).room s m args below meth c H locs 0 0 QQ (F0 m 53 ls []) := by
          intro C H locs ls hP hS h86 h89 h90 h92 h93 h94 h95 h96 h97 h98 h99 h100 h101 h102 hl
          obtain ⟨x13, ex13, hf⟩ := lt_e hf
          refine lv_iinc (v := x13) (lv' := [(5, .int x13), (0, .ref (ad 86)), (1, .int q1), (2, .int q12.1), (3, .long q12.2)]) hx hb dX11_likeliest_53 hl (k := 4) rfl (by rw [ex13]; rfl) (by decide) rfl (fun ls hl => ?_)
          refine lv_goto (tgt := 16) hx hb dX11_likeliest_56 (by decide) ?_
          exact ih q12.1 q12.2 x13 C H locs ls hP hS h86 h89 h90 h92 h93 h94 h95 h96 h97 h98 h99 h100 h101 h102 (lv_sub hl [1, 2, 3, 4, 0] rfl) hf
        clear hf
        have hf := htq12
        refine lv_if_eq (tgt := 53) hx hb dX11_likeliest_29 (by decide) (fun c14 => ?_) (fun c14 => ?_)
        · have hf := it_e c14 hf
          obtain rfl := Option.some.inj hf
          exact jnq12 C H locs ls hP hS h86 h89 h90 h92 h93 h94 h95 h96 h97 h98 h99 h100 h101 h102 (lv_sub hl [0, 1, 2, 3, 4] rfl)
        · have hf := ie_e c14 hf
          refine lv_aload_n hx hb dX11_likeliest_32 rfl (lv_at hl 0 rfl) ?_
          refine lv_iload hx hb dX11_likeliest_33 (lv_at hl 4 rfl) ?_
          obtain ⟨q15, hq15, hf⟩ := bd_e hf
          refine k_lR (va_runV (C := RX11) (As := [.int x6]) (rest := []) ⟨hx, hb, hml, hown, hts⟩ (c_X11_thoughtOf (l := l) (sz := H.size) (p0 := x6) hN h86 h89 h90 h92 h93 h94 h95 h96 h97 h98 h99 h100 h101 h102 hq15) (cwV 1 hts gX11_likeliest_X11_thoughtOf rfl rfl rfl (by decide +kernel) ⟨Nat.le_of_ble_eq_true rfl, Nat.le_of_ble_eq_true rfl⟩) (preV_of hK hP (by omega) h86 rfl) rfl rfl hl.1 rfl (lv_room (Nat.le_of_ble_eq_true rfl)) dX11_likeliest_35 ⟨Nat.le_of_ble_eq_true rfl, Nat.le_of_ble_eq_true rfl⟩) hA hP hS (fun H locs hP hS => ?_)
          refine lv_lload_n hx hb dX11_likeliest_38 rfl (lv_at hl 3 rfl) ?_
          refine W.lcmp hx hb dX11_likeliest_39 ?_
          refine lv_if_le (tgt := 53) hx hb dX11_likeliest_40 (by decide) (fun c16 => ?_) (fun c16 => ?_)
          · have hf := it_e c16 hf
            obtain rfl := Option.some.inj hf
            exact jnq12 C H locs ls hP hS h86 h89 h90 h92 h93 h94 h95 h96 h97 h98 h99 h100 h101 h102 (lv_sub hl [0, 1, 2, 3, 4] rfl)
          · have hf := ie_e c16 hf
            refine lv_iload hx hb dX11_likeliest_43 (lv_at hl 4 rfl) ?_
            refine lv_istore_n (lv' := [(2, .int x6), (0, .ref (ad 86)), (1, .int q1), (3, .long x5), (5, .int x6)]) hx hb dX11_likeliest_45 rfl hl (by decide) rfl (fun ls hl => ?_)
            refine lv_aload_n hx hb dX11_likeliest_46 rfl (lv_at hl 1 rfl) ?_
            refine lv_iload hx hb dX11_likeliest_47 (lv_at hl 4 rfl) ?_
            obtain ⟨q17, hq17, hf⟩ := bd_e hf
            refine k_lR (va_runV (C := RX11) (As := [.int x6]) (rest := []) ⟨hx, hb, hml, hown, hts⟩ (c_X11_thoughtOf (l := l) (sz := H.size) (p0 := x6) hN h86 h89 h90 h92 h93 h94 h95 h96 h97 h98 h99 h100 h101 h102 hq17) (cwV 1 hts gX11_likeliest_X11_thoughtOf rfl rfl rfl (by decide +kernel) ⟨Nat.le_of_ble_eq_true rfl, Nat.le_of_ble_eq_true rfl⟩) (preV_of hK hP (by omega) h86 rfl) rfl rfl hl.1 rfl (lv_room (Nat.le_of_ble_eq_true rfl)) dX11_likeliest_49 ⟨Nat.le_of_ble_eq_true rfl, Nat.le_of_ble_eq_true rfl⟩) hA hP hS (fun H locs hP hS => ?_)
            refine lv_lstore_n (lv' := [(3, .long q17), (2, .int x6), (0, .ref (ad 86)), (1, .int q1), (5, .int x6)]) hx hb dX11_likeliest_52 rfl hl (by decide) rfl (fun ls hl => ?_)
            obtain rfl := Option.some.inj hf
            exact jnq12 C H locs ls hP hS h86 h89 h90 h92 h93 h94 h95 h96 h97 h98 h99 h100 h101 h102 (lv_sub hl [2, 3, 1, 0, 4] rfl)
  refine key16 _ (fun x7 x8 x9 C H locs ls hP hS h86 h89 h90 h92 h93 h94 h95 h96 h97 h98 h99 h100 h101 h102 hl hf => ?_) FU x2 q3 0 C H locs ls hP hS h86 h89 h90 h92 h93 h94 h95 h96 h97 h98 h99 h100 h101 h102 (lv_sub hl [4, 3, 2, 1, 0] rfl) hf
  refine lv_iload_n hx hb dX11_likeliest_59 rfl (lv_at hl 2 rfl) ?_
  obtain rfl := Option.some.inj hf
  rw [← hQ]
  exact e_iR hx hb hr rfl (tP_i _) hS hlocks dX11_likeliest_60

def LX11_lacks_38 (p0 : Int32) (m_down : Nat → Int32) (m_min : Nat → Int32) (m_gone : Nat → Int32) (m_flow : Nat → Int32) (m_str : Nat → Int32) (m_from : Nat → Int32) (m_to : Nat → Int32) (m_rain : Nat → Int32) (m_tell : Nat → Int32) (m_finds : Nat → Int32) (m_there : Int32) (m_fm : Int32) (x4 : Int32) (ko : Int32 → Int32 → Option (Int32)) : Nat → Int32 → Int32 → Option (Int32)
  | 0, _, _ => none
  | n + 1, x9, x10 =>
    if (5 * m_fm) ≤ x10 then
      ko x9 x10
    else
      if x9 = 0 then
        ko x9 x10
      else
        ri m_finds 50 (x10) fun x15 =>
        ri m_finds 50 ((x10 + 1)) fun x17 =>
        ri m_finds 50 ((x10 + 2)) fun x19 =>
        ri m_finds 50 ((x10 + 3)) fun x21 =>
        (f_X11_shouldBy x4 (-1) p0 x15 x17 x19 x21 m_down m_min m_gone m_flow m_str m_from m_to m_rain m_tell m_there).bind fun q23 =>
        ri m_finds 50 ((x10 + 4)) fun x24 =>
        (if x24 = 1 then
          some (1)
        else
          some (0) : Option (Int32)).bind fun q26 =>
        (if q23 = q26 then
          some (1)
        else
          some (0) : Option (Int32)).bind fun q27 =>
        lt (x10 + 5 : Int32) fun x28 =>
        LX11_lacks_38 p0 m_down m_min m_gone m_flow m_str m_from m_to m_rain m_tell m_finds m_there m_fm x4 ko n q27 x28
theorem LX11_lacks_38_z (p0 : Int32) (m_down : Nat → Int32) (m_min : Nat → Int32) (m_gone : Nat → Int32) (m_flow : Nat → Int32) (m_str : Nat → Int32) (m_from : Nat → Int32) (m_to : Nat → Int32) (m_rain : Nat → Int32) (m_tell : Nat → Int32) (m_finds : Nat → Int32) (m_there : Int32) (m_fm : Int32) (x4 : Int32) (ko : Int32 → Int32 → Option (Int32)) (x9 : Int32) (x10 : Int32) : LX11_lacks_38 p0 m_down m_min m_gone m_flow m_str m_from m_to m_rain m_tell m_finds m_there m_fm x4 ko 0 x9 x10 = none := rfl
theorem LX11_lacks_38_s (p0 : Int32) (m_down : Nat → Int32) (m_min : Nat → Int32) (m_gone : Nat → Int32) (m_flow : Nat → Int32) (m_str : Nat → Int32) (m_from : Nat → Int32) (m_to : Nat → Int32) (m_rain : Nat → Int32) (m_tell : Nat → Int32) (m_finds : Nat → Int32) (m_there : Int32) (m_fm : Int32) (x4 : Int32) (ko : Int32 → Int32 → Option (Int32)) (n : Nat) (x9 : Int32) (x10 : Int32) : LX11_lacks_38 p0 m_down m_min m_gone m_flow m_str m_from m_to m_rain m_tell m_finds m_there m_fm x4 ko (n + 1) x9 x10 =
    if (5 * m_fm) ≤ x10 then
      ko x9 x10
    else
      if x9 = 0 then
        ko x9 x10
      else
        ri m_finds 50 (x10) fun x15 =>
        ri m_finds 50 ((x10 + 1)) fun x17 =>
        ri m_finds 50 ((x10 + 2)) fun x19 =>
        ri m_finds 50 ((x10 + 3)) fun x21 =>
        (f_X11_shouldBy x4 (-1) p0 x15 x17 x19 x21 m_down m_min m_gone m_flow m_str m_from m_to m_rain m_tell m_there).bind fun q23 =>
        ri m_finds 50 ((x10 + 4)) fun x24 =>
        (if x24 = 1 then
          some (1)
        else
          some (0) : Option (Int32)).bind fun q26 =>
        (if q23 = q26 then
          some (1)
        else
          some (0) : Option (Int32)).bind fun q27 =>
        lt (x10 + 5 : Int32) fun x28 =>
        LX11_lacks_38 p0 m_down m_min m_gone m_flow m_str m_from m_to m_rain m_tell m_finds m_there m_fm x4 ko n q27 x28 := rfl
def LX11_lacks_19 (p0 : Int32) (m_down : Nat → Int32) (m_min : Nat → Int32) (m_gone : Nat → Int32) (m_flow : Nat → Int32) (m_str : Nat → Int32) (m_from : Nat → Int32) (m_to : Nat → Int32) (m_rain : Nat → Int32) (m_tell : Nat → Int32) (m_finds : Nat → Int32) (m_there : Int32) (m_fm : Int32) (ko : Int32 → Int32 → Option (Int32)) : Nat → Int32 → Int32 → Option (Int32)
  | 0, _, _ => none
  | n + 1, x3, x4 =>
    if 12 ≤ x4 then
      ko x3 x4
    else
      (f_X11_has m_there x4).bind fun q8 =>
      LX11_lacks_38 p0 m_down m_min m_gone m_flow m_str m_from m_to m_rain m_tell m_finds m_there m_fm x4 (fun x11 x12 =>
        (if x11 = 0 then
          some (0)
        else
          some ((1 <<< (x4 &&& 31))) : Option (Int32)).bind fun q31 =>
        lt ((x3 ||| q31) : Int32) fun x32 =>
        lt (x4 + 1 : Int32) fun x33 =>
        LX11_lacks_19 p0 m_down m_min m_gone m_flow m_str m_from m_to m_rain m_tell m_finds m_there m_fm ko n x32 x33) FU q8 0
theorem LX11_lacks_19_z (p0 : Int32) (m_down : Nat → Int32) (m_min : Nat → Int32) (m_gone : Nat → Int32) (m_flow : Nat → Int32) (m_str : Nat → Int32) (m_from : Nat → Int32) (m_to : Nat → Int32) (m_rain : Nat → Int32) (m_tell : Nat → Int32) (m_finds : Nat → Int32) (m_there : Int32) (m_fm : Int32) (ko : Int32 → Int32 → Option (Int32)) (x3 : Int32) (x4 : Int32) : LX11_lacks_19 p0 m_down m_min m_gone m_flow m_str m_from m_to m_rain m_tell m_finds m_there m_fm ko 0 x3 x4 = none := rfl
theorem LX11_lacks_19_s (p0 : Int32) (m_down : Nat → Int32) (m_min : Nat → Int32) (m_gone : Nat → Int32) (m_flow : Nat → Int32) (m_str : Nat → Int32) (m_from : Nat → Int32) (m_to : Nat → Int32) (m_rain : Nat → Int32) (m_tell : Nat → Int32) (m_finds : Nat → Int32) (m_there : Int32) (m_fm : Int32) (ko : Int32 → Int32 → Option (Int32)) (n : Nat) (x3 : Int32) (x4 : Int32) : LX11_lacks_19 p0 m_down m_min m_gone m_flow m_str m_from m_to m_rain m_tell m_finds m_there m_fm ko (n + 1) x3 x4 =
    if 12 ≤ x4 then
      ko x3 x4
    else
      (f_X11_has m_there x4).bind fun q8 =>
      LX11_lacks_38 p0 m_down m_min m_gone m_flow m_str m_from m_to m_rain m_tell m_finds m_there m_fm x4 (fun x11 x12 =>
        (if x11 = 0 then
          some (0)
        else
          some ((1 <<< (x4 &&& 31))) : Option (Int32)).bind fun q31 =>
        lt ((x3 ||| q31) : Int32) fun x32 =>
        lt (x4 + 1 : Int32) fun x33 =>
        LX11_lacks_19 p0 m_down m_min m_gone m_flow m_str m_from m_to m_rain m_tell m_finds m_there m_fm ko n x32 x33) FU q8 0 := rfl
def f_X11_lacks (p0 : Int32) (m_down : Nat → Int32) (m_min : Nat → Int32) (m_gone : Nat → Int32) (m_flow : Nat → Int32) (m_str : Nat → Int32) (m_from : Nat → Int32) (m_to : Nat → Int32) (m_rain : Nat → Int32) (m_tell : Nat → Int32) (m_finds : Nat → Int32) (m_there : Int32) (m_fm : Int32) : Option (Int32) :=
  (f_X11_in (Int32.toInt64 p0) (0 : Int64) (9999 : Int64)).bind fun q1 =>
  if q1 = 0 then
    some ((-3))
  else
    LX11_lacks_19 p0 m_down m_min m_gone m_flow m_str m_from m_to m_rain m_tell m_finds m_there m_fm (fun x5 x6 =>
      some (x5)) FU 0 0
abbrev rmX11_lacks : Room := { frames := 5, cells := 0, slots := 0, locals := 126 }
set_option maxHeartbeats 4000000 in
set_option maxRecDepth 100000 in
theorem c_X11_lacks {l : Launch} {D : va_G} {g : Nat → ClassId} {N : Nat} {ad : Nat → Nat} {C : Nat → va_E} {sz : Nat} {m_len : Int32} {m_rm : Int32} {m_there : Int32} {m_lift : Int32} {m_blank : Int32} {m_fm : Int32} {m_at : Int32} {m_pl : Int32} {m_end : Int32} {m_seed : Int32} {m_down : Nat → Int32} {m_min : Nat → Int32} {m_gone : Nat → Int32} {m_flow : Nat → Int32} {m_str : Nat → Int32} {m_from : Nat → Int32} {m_to : Nat → Int32} {m_rain : Nat → Int32} {m_tell : Nat → Int32} {m_finds : Nat → Int32} {p0 : Int32} {rr : Int32} (hN : 109 ≤ N) (h86 : C 86 = .inr (11, [.ref (ad 87), .int m_len, .ref (ad 88), .int m_rm, .int m_there, .ref (ad 89), .ref (ad 90), .ref (ad 91), .ref (ad 92), .ref (ad 93), .ref (ad 94), .ref (ad 95), .ref (ad 96), .ref (ad 97), .ref (ad 98), .ref (ad 99), .ref (ad 100), .ref (ad 101), .int m_lift, .int m_blank, .ref (ad 102), .int m_fm, .int m_at, .int m_pl, .int m_end, .ref (ad 103), .ref (ad 104), .ref (ad 105), .ref (ad 106), .ref (ad 107), .ref (ad 108), .int m_seed])) (h89 : C 89 = aI g 12 m_down) (h90 : C 90 = aI g 12 m_min) (h92 : C 92 = aI g 12 m_gone) (h93 : C 93 = aI g 12 m_flow) (h95 : C 95 = aI g 12 m_str) (h96 : C 96 = aI g 12 m_from) (h97 : C 97 = aI g 12 m_to) (h98 : C 98 = aI g 24 m_rain) (h99 : C 99 = aI g 4 m_tell) (h102 : C 102 = aI g 50 m_finds) (hf : f_X11_lacks p0 m_down m_min m_gone m_flow m_str m_from m_to m_rain m_tell m_finds m_there m_fm = some rr) : Met l yX11_lacks wsX11_lacks rmX11_lacks (PcW D g N ad C sz [.ref (ad 86), .int p0]) (QiR sz tP rr) 0 0 (An sz) := by
  refine Met.ofW (cc := cX11_lacks) (maxL := 6) (ret := (some .int)) (by decide) rfl ?_
  intro p e s m args below meth c s₁ B hml hv
  obtain ⟨hav, hsz, hK, hP⟩ := hv
  subst hsz
  have hx := B.exec
  have hb := B.bytes
  have hr := B.returns
  have hts := atoms_spec (ws := wsX11_lacks) B.pre
  have hown : s.vm.findClass RX11 = some m.cls := findClass_of_methodNamed B.named
  have hlocks := B.notSynchronized
  generalize hQ : MQ below (QiR s.heap.size tP rr) args s 0 0 (An s.heap.size) = QQ
  have hS : va_S (An s.heap.size) s.heap s.heap [] := va_S.rf
  have hA : ∀ q, s.heap.size ≤ q → (An s.heap.size) q := fun q h => h
  have k0 := hts (.constantLong RX11 255 (9999)) (List.mem_of_getElem? (i := 1) rfl)
  have k1 := hts (.fieldLink RX11 16 "UpDrainModel" "there" "I") (List.mem_of_getElem? (i := 2) rfl)
  have nX11 : ∀ w ∈ u_ws RX11 TX11 32, w ∈ wsX11_lacks := fun _ h => List.mem_cons_of_mem _ (List.mem_append_right _ h)
  have k3 := hts (.fieldLink RX11 207 "UpDrainModel" "findMany" "I") (List.mem_of_getElem? (i := 3) rfl)
  have k4 := hts (.fieldLink RX11 59 "UpDrainModel" "finds" "[I") (List.mem_of_getElem? (i := 4) rfl)
  have hE := lg_entry_eq m [.ref (ad 86), .int p0] 6
  rw [← hav] at hE
  rw [hE]
  have hl := lv_entry [.ref (ad 86), .int p0] (n := 6) (Nat.le_of_ble_eq_true rfl)
  generalize (lg_sl [.ref (ad 86), .int p0] ++ List.replicate (6 - (lg_sl [.ref (ad 86), .int p0]).length) Slot.unset).toArray = ls at hl ⊢
  have hl : lv_has ls 6 [(0, .ref (ad 86)), (1, .int p0)] := hl
  clear hE
  unfold f_X11_lacks at hf
  suffices hgo : ∀ (H : Heap) (locs : List Loc), va_P D vwCl (wd N ad C) H → va_S (An s.heap.size) s.heap H locs → W p l e (headSpec wsX11_lacks rmX11_lacks).room s m args below meth c H locs 0 0 QQ (F0 m 0 ls []) from hgo s.heap [] hP hS
  clear hS hP
  intro H locs hP hS
  refine lv_iload_n hx hb dX11_lacks_0 rfl (lv_at hl 1 rfl) ?_
  refine lv_i2l hx hb dX11_lacks_1 rfl ?_
  refine lv_lconst (v := 0) hx hb dX11_lacks_2 (by decide) ?_
  refine lv_ldc2 (own := RX11) hx hb hown k0 dX11_lacks_3 ?_
  obtain ⟨q1, hq1, hf⟩ := bd_e hf
  refine k_iR (va_runS (As := [.long (Int32.toInt64 p0), .long (0 : Int64), .long (9999 : Int64)]) (rest := []) ⟨hx, hb, hml, hown, hts⟩ (c_X11_in (l := l) (sz := H.size) (p0 := (Int32.toInt64 p0)) (p1 := (0 : Int64)) (p2 := (9999 : Int64)) hq1) (va_cwS 3 hts gX11_lacks_X11_in rfl rfl rfl (by decide +kernel) ⟨Nat.le_of_ble_eq_true rfl, Nat.le_of_ble_eq_true rfl⟩) preS0 rfl rfl hl.1 rfl (lv_room (Nat.le_of_ble_eq_true rfl)) dX11_lacks_6 ⟨Nat.le_of_ble_eq_true rfl, Nat.le_of_ble_eq_true rfl⟩) hA hP hS (fun H locs hP hS hbz_q1 => ?_)
  refine lv_if_ne (tgt := 15) hx hb dX11_lacks_9 (by decide) (fun c2 => ?_) (fun c2 => ?_)
  · have hf := ie_e c2 hf
    refine lv_iconst (v := 0) hx hb dX11_lacks_15 (by decide) ?_
    refine lv_istore_n (lv' := [(2, .int 0), (0, .ref (ad 86)), (1, .int p0)]) hx hb dX11_lacks_16 rfl hl (by decide) rfl (fun ls hl => ?_)
    refine lv_iconst (v := 0) hx hb dX11_lacks_17 (by decide) ?_
    refine lv_istore_n (lv' := [(3, .int 0), (2, .int 0), (0, .ref (ad 86)), (1, .int p0)]) hx hb dX11_lacks_18 rfl hl (by decide) rfl (fun ls hl => ?_)
    have key19 : ∀ (ko : Int32 → Int32 → Option (Int32)), (∀ (x5 : Int32) (x6 : Int32) (C : Nat → va_E) (H : Heap) (locs : List Loc) (ls : Array Slot), va_P D vwCl (wd N ad C) H → va_S (An s.heap.size) s.heap H locs → C 86 = .inr (11, [.ref (ad 87), .int m_len, .ref (ad 88), .int m_rm, .int m_there, .ref (ad 89), .ref (ad 90), .ref (ad 91), .ref (ad 92), .ref (ad 93), .ref (ad 94), .ref (ad 95), .ref (ad 96), .ref (ad 97), .ref (ad 98), .ref (ad 99), .ref (ad 100), .ref (ad 101), .int m_lift, .int m_blank, .ref (ad 102), .int m_fm, .int m_at, .int m_pl, .int m_end, .ref (ad 103), .ref (ad 104), .ref (ad 105), .ref (ad 106), .ref (ad 107), .ref (ad 108), .int m_seed]) → C 89 = aI g 12 m_down → C 90 = aI g 12 m_min → C 92 = aI g 12 m_gone → C 93 = aI g 12 m_flow → C 95 = aI g 12 m_str → C 96 = aI g 12 m_from → C 97 = aI g 12 m_to → C 98 = aI g 24 m_rain → C 99 = aI g 4 m_tell → C 102 = aI g 50 m_finds → lv_has ls 6 [(0, .ref (ad 86)), (1, .int p0), (2, .int x5), (3, .int x6)] → ko x5 x6 = some rr → W p l e (headSpec wsX11_lacks rmX11_lacks).room s m args below meth c H locs 0 0 QQ (F0 m 150 ls [])) → ∀ (n : Nat) (x3 : Int32) (x4 : Int32) (C : Nat → va_E) (H : Heap) (locs : List Loc) (ls : Array Slot), va_P D vwCl (wd N ad C) H → va_S (An s.heap.size) s.heap H locs → C 86 = .inr (11, [.ref (ad 87), .int m_len, .ref (ad 88), .int m_rm, .int m_there, .ref (ad 89), .ref (ad 90), .ref (ad 91), .ref (ad 92), .ref (ad 93), .ref (ad 94), .ref (ad 95), .ref (ad 96), .ref (ad 97), .ref (ad 98), .ref (ad 99), .ref (ad 100), .ref (ad 101), .int m_lift, .int m_blank, .ref (ad 102), .int m_fm, .int m_at, .int m_pl, .int m_end, .ref (ad 103), .ref (ad 104), .ref (ad 105), .ref (ad 106), .ref (ad 107), .ref (ad 108), .int m_seed]) → C 89 = aI g 12 m_down → C 90 = aI g 12 m_min → C 92 = aI g 12 m_gone → C 93 = aI g 12 m_flow → C 95 = aI g 12 m_str → C 96 = aI g 12 m_from → C 97 = aI g 12 m_to → C 98 = aI g 24 m_rain → C 99 = aI g 4 m_tell → C 102 = aI g 50 m_finds → lv_has ls 6 [(0, .ref (ad 86)), (1, .int p0), (2, .int x3), (3, .int x4)] → LX11_lacks_19 p0 m_down m_min m_gone m_flow m_str m_from m_to m_rain m_tell m_finds m_there m_fm ko n x3 x4 = some rr → W p l e (headSpec wsX11_lacks rmX11_lacks).room s m args below meth c H locs 0 0 QQ (F0 m 19 ls []) := by
      intro ko hko n
      induction n with
      | zero =>
        intro x3 x4 C H locs ls hP hS h86 h89 h90 h92 h93 h95 h96 h97 h98 h99 h102 hl hf
        rw [LX11_lacks_19_z] at hf
        cases hf
      | succ n ih =>
        intro x3 x4 C H locs ls hP hS h86 h89 h90 h92 h93 h95 h96 h97 h98 h99 h102 hl hf
        rw [LX11_lacks_19_s] at hf
        refine lv_iload_n hx hb dX11_lacks_19 rfl (lv_at hl 3 rfl) ?_
        refine lv_bipush (v := 12) hx hb dX11_lacks_20 (by decide) ?_
        refine lv_icmp_ge (tgt := 150) hx hb dX11_lacks_22 (by decide) (fun c7 => ?_) (fun c7 => ?_)
        · have hf := it_e c7 hf
          exact hko x3 x4 C H locs ls hP hS h86 h89 h90 h92 h93 h95 h96 h97 h98 h99 h102 (lv_sub hl [0, 1, 2, 3] rfl) hf
        · have hf := ie_e c7 hf
          refine lv_aload_n hx hb dX11_lacks_25 rfl (lv_at hl 0 rfl) ?_
          refine r_get (own := RX11) (T := TX11) (n := 32) (ci := 11) (v := .int m_there) hx hb hts nX11 hown hK hP (by omega) h86 rfl 4 (by decide) k1 rfl dX11_lacks_26 ?_
          refine lv_iload_n hx hb dX11_lacks_29 rfl (lv_at hl 3 rfl) ?_
          obtain ⟨q8, hq8, hf⟩ := bd_e hf
          refine k_iR (va_runS (As := [.int m_there, .int x4]) (rest := []) ⟨hx, hb, hml, hown, hts⟩ (c_X11_has (l := l) (sz := H.size) (p0 := m_there) (p1 := x4) hq8) (va_cwS 2 hts gX11_lacks_X11_has rfl rfl rfl (by decide +kernel) ⟨Nat.le_of_ble_eq_true rfl, Nat.le_of_ble_eq_true rfl⟩) preS0 rfl rfl hl.1 rfl (lv_room (Nat.le_of_ble_eq_true rfl)) dX11_lacks_30 ⟨Nat.le_of_ble_eq_true rfl, Nat.le_of_ble_eq_true rfl⟩) hA hP hS (fun H locs hP hS hbz_q8 => ?_)
          refine lv_istore (lv' := [(4, .int q8), (0, .ref (ad 86)), (1, .int p0), (2, .int x3), (3, .int x4)]) hx hb dX11_lacks_33 hl (by decide) rfl (fun ls hl => ?_)
          refine lv_iconst (v := 0) hx hb dX11_lacks_35 (by decide) ?_
          refine lv_istore (lv' := [(5, .int 0), (4, .int q8), (0, .ref (ad 86)), (1, .int p0), (2, .int x3), (3, .int x4)]) hx hb dX11_lacks_36 hl (by decide) rfl (fun ls hl => ?_)
          have key38 : ∀ (ko : Int32 → Int32 → Option (Int32)), (∀ (x11 : Int32) (x12 : Int32) (C : Nat → va_E) (H : Heap) (locs : List Loc) (ls : Array Slot), va_P D vwCl (wd N ad C) H → va_S (An s.heap.size) s.heap H locs → C 86 = .inr (11, [.ref (ad 87), .int m_len, .ref (ad 88), .int m_rm, .int m_there, .ref (ad 89), .ref (ad 90), .ref (ad 91), .ref (ad 92), .ref (ad 93), .ref (ad 94), .ref (ad 95), .ref (ad 96), .ref (ad 97), .ref (ad 98), .ref (ad 99), .ref (ad 100), .ref (ad 101), .int m_lift, .int m_blank, .ref (ad 102), .int m_fm, .int m_at, .int m_pl, .int m_end, .ref (ad 103), .ref (ad 104), .ref (ad 105), .ref (ad 106), .ref (ad 107), .ref (ad 108), .int m_seed]) → C 89 = aI g 12 m_down → C 90 = aI g 12 m_min → C 92 = aI g 12 m_gone → C 93 = aI g 12 m_flow → C 95 = aI g 12 m_str → C 96 = aI g 12 m_from → C 97 = aI g 12 m_to → C 98 = aI g 24 m_rain → C 99 = aI g 4 m_tell → C 102 = aI g 50 m_finds → lv_has ls 6 [(0, .ref (ad 86)), (1, .int p0), (2, .int x3), (3, .int x4), (4, .int x11), (5, .int x12)] → ko x11 x12 = some rr → W p l e (headSpec wsX11_lacks rmX11_lacks).room s m args below meth c H locs 0 0 QQ (F0 m 129 ls [])) → ∀ (n : Nat) (x9 : Int32) (x10 : Int32) (C : Nat → va_E) (H : Heap) (locs : List Loc) (ls : Array Slot), va_P D vwCl (wd N ad C) H → va_S (An s.heap.size) s.heap H locs → C 86 = .inr (11, [.ref (ad 87), .int m_len, .ref (ad 88), .int m_rm, .int m_there, .ref (ad 89), .ref (ad 90), .ref (ad 91), .ref (ad 92), .ref (ad 93), .ref (ad 94), .ref (ad 95), .ref (ad 96), .ref (ad 97), .ref (ad 98), .ref (ad 99), .ref (ad 100), .ref (ad 101), .int m_lift, .int m_blank, .ref (ad 102), .int m_fm, .int m_at, .int m_pl, .int m_end, .ref (ad 103), .ref (ad 104), .ref (ad 105), .ref (ad 106), .ref (ad 107), .ref (ad 108), .int m_seed]) → C 89 = aI g 12 m_down → C 90 = aI g 12 m_min → C 92 = aI g 12 m_gone → C 93 = aI g 12 m_flow → C 95 = aI g 12 m_str → C 96 = aI g 12 m_from → C 97 = aI g 12 m_to → C 98 = aI g 24 m_rain → C 99 = aI g 4 m_tell → C 102 = aI g 50 m_finds → lv_has ls 6 [(0, .ref (ad 86)), (1, .int p0), (2, .int x3), (3, .int x4), (4, .int x9), (5, .int x10)] → LX11_lacks_38 p0 m_down m_min m_gone m_flow m_str m_from m_to m_rain m_tell m_finds m_there m_fm x4 ko n x9 x10 = some rr → W p l e (headSpec wsX11_lacks rmX11_lacks).room s m args below meth c H locs 0 0 QQ (F0 m 38 ls []) := by
            intro ko hko n
            induction n with
            | zero =>
              intro x9 x10 C H locs ls hP hS h86 h89 h90 h92 h93 h95 h96 h97 h98 h99 h102 hl hf
              rw [LX11_lacks_38_z] at hf
              cases hf
            | succ n ih =>
              intro x9 x10 C H locs ls hP hS h86 h89 h90 h92 h93 h95 h96 h97 h98 h99 h102 hl hf
              rw [LX11_lacks_38_s] at hf
              refine lv_iload hx hb dX11_lacks_38 (lv_at hl 5 rfl) ?_
              refine lv_iconst (v := 5) hx hb dX11_lacks_40 (by decide) ?_
              refine lv_aload_n hx hb dX11_lacks_41 rfl (lv_at hl 0 rfl) ?_
              refine r_get (own := RX11) (T := TX11) (n := 32) (ci := 11) (v := .int m_fm) hx hb hts nX11 hown hK hP (by omega) h86 rfl 21 (by decide) k3 rfl dX11_lacks_42 ?_
              refine lv_imul hx hb dX11_lacks_45 ?_
              refine lv_icmp_ge (tgt := 129) hx hb dX11_lacks_46 (by decide) (fun c13 => ?_) (fun c13 => ?_)
              · have hf := it_e c13 hf
                exact hko x9 x10 C H locs ls hP hS h86 h89 h90 h92 h93 h95 h96 h97 h98 h99 h102 (lv_sub hl [0, 1, 2, 3, 4, 5] rfl) hf
              · have hf := ie_e c13 hf
                refine lv_iload hx hb dX11_lacks_49 (lv_at hl 4 rfl) ?_
                refine lv_if_eq (tgt := 129) hx hb dX11_lacks_51 (by decide) (fun c14 => ?_) (fun c14 => ?_)
                · have hf := it_e c14 hf
                  exact hko x9 x10 C H locs ls hP hS h86 h89 h90 h92 h93 h95 h96 h97 h98 h99 h102 (lv_sub hl [0, 1, 2, 3, 4, 5] rfl) hf
                · have hf := ie_e c14 hf
                  refine lv_aload_n hx hb dX11_lacks_54 rfl (lv_at hl 0 rfl) ?_
                  refine lv_iload_n hx hb dX11_lacks_55 rfl (lv_at hl 3 rfl) ?_
                  refine lv_iconst (v := (-1)) hx hb dX11_lacks_56 (by decide) ?_
                  refine lv_iload_n hx hb dX11_lacks_57 rfl (lv_at hl 1 rfl) ?_
                  refine lv_aload_n hx hb dX11_lacks_58 rfl (lv_at hl 0 rfl) ?_
                  refine r_get (own := RX11) (T := TX11) (n := 32) (ci := 11) (v := .ref (ad 102)) hx hb hts nX11 hown hK hP (by omega) h86 rfl 20 (by decide) k4 rfl dX11_lacks_59 ?_
                  refine lv_iload hx hb dX11_lacks_62 (lv_at hl 5 rfl) ?_
                  obtain ⟨i16, x15, ex15, hf⟩ := ri_e hf
                  refine r_iald hx hb hK hP (by omega) h102 i16 dX11_lacks_64 ex15 ?_
                  refine lv_aload_n hx hb dX11_lacks_65 rfl (lv_at hl 0 rfl) ?_
                  refine r_get (own := RX11) (T := TX11) (n := 32) (ci := 11) (v := .ref (ad 102)) hx hb hts nX11 hown hK hP (by omega) h86 rfl 20 (by decide) k4 rfl dX11_lacks_66 ?_
                  refine lv_iload hx hb dX11_lacks_69 (lv_at hl 5 rfl) ?_
                  refine lv_iconst (v := 1) hx hb dX11_lacks_71 (by decide) ?_
                  refine lv_iadd hx hb dX11_lacks_72 ?_
                  obtain ⟨i18, x17, ex17, hf⟩ := ri_e hf
                  refine r_iald hx hb hK hP (by omega) h102 i18 dX11_lacks_73 ex17 ?_
                  refine lv_aload_n hx hb dX11_lacks_74 rfl (lv_at hl 0 rfl) ?_
                  refine r_get (own := RX11) (T := TX11) (n := 32) (ci := 11) (v := .ref (ad 102)) hx hb hts nX11 hown hK hP (by omega) h86 rfl 20 (by decide) k4 rfl dX11_lacks_75 ?_
                  refine lv_iload hx hb dX11_lacks_78 (lv_at hl 5 rfl) ?_
                  refine lv_iconst (v := 2) hx hb dX11_lacks_80 (by decide) ?_
                  refine lv_iadd hx hb dX11_lacks_81 ?_
                  obtain ⟨i20, x19, ex19, hf⟩ := ri_e hf
                  refine r_iald hx hb hK hP (by omega) h102 i20 dX11_lacks_82 ex19 ?_
                  refine lv_aload_n hx hb dX11_lacks_83 rfl (lv_at hl 0 rfl) ?_
                  refine r_get (own := RX11) (T := TX11) (n := 32) (ci := 11) (v := .ref (ad 102)) hx hb hts nX11 hown hK hP (by omega) h86 rfl 20 (by decide) k4 rfl dX11_lacks_84 ?_
                  refine lv_iload hx hb dX11_lacks_87 (lv_at hl 5 rfl) ?_
                  refine lv_iconst (v := 3) hx hb dX11_lacks_89 (by decide) ?_
                  refine lv_iadd hx hb dX11_lacks_90 ?_
                  obtain ⟨i22, x21, ex21, hf⟩ := ri_e hf
                  refine r_iald hx hb hK hP (by omega) h102 i22 dX11_lacks_91 ex21 ?_
                  obtain ⟨q23, hq23, hf⟩ := bd_e hf
                  refine k_iR (va_runV (C := RX11) (As := [.int x4, .int (-1), .int p0, .int x15, .int x17, .int x19, .int x21]) (rest := []) ⟨hx, hb, hml, hown, hts⟩ (c_X11_shouldBy (l := l) (sz := H.size) (p0 := x4) (p1 := (-1)) (p2 := p0) (p3 := x15) (p4 := x17) (p5 := x19) (p6 := x21) hN h86 h89 h90 h92 h93 h95 h96 h97 h98 h99 hq23) (cwV 7 hts gX11_lacks_X11_shouldBy rfl rfl rfl (by decide +kernel) ⟨Nat.le_of_ble_eq_true rfl, Nat.le_of_ble_eq_true rfl⟩) (preV_of hK hP (by omega) h86 rfl) rfl rfl hl.1 rfl (lv_room (Nat.le_of_ble_eq_true rfl)) dX11_lacks_92 ⟨Nat.le_of_ble_eq_true rfl, Nat.le_of_ble_eq_true rfl⟩) hA hP hS (fun H locs hP hS hbz_q23 => ?_)
                  refine lv_aload_n hx hb dX11_lacks_95 rfl (lv_at hl 0 rfl) ?_
                  refine r_get (own := RX11) (T := TX11) (n := 32) (ci := 11) (v := .ref (ad 102)) hx hb hts nX11 hown hK hP (by omega) h86 rfl 20 (by decide) k4 rfl dX11_lacks_96 ?_
                  refine lv_iload hx hb dX11_lacks_99 (lv_at hl 5 rfl) ?_
                  refine lv_iconst (v := 4) hx hb dX11_lacks_101 (by decide) ?_
                  refine lv_iadd hx hb dX11_lacks_102 ?_
                  obtain ⟨i25, x24, ex24, hf⟩ := ri_e hf
                  refine r_iald hx hb hK hP (by omega) h102 i25 dX11_lacks_103 ex24 ?_
                  refine lv_iconst (v := 1) hx hb dX11_lacks_104 (by decide) ?_
                  obtain ⟨q26, htq26, hf⟩ := bd_e hf
                  have jnq26 : ∀ (C : Nat → va_E) (H : Heap) (locs : List Loc) (ls : Array Slot), va_P D vwCl (wd N ad C) H → va_S (An s.heap.size) s.heap H locs → C 86 = .inr (11, [.ref (ad 87), .int m_len, .ref (ad 88), .int m_rm, .int m_there, .ref (ad 89), .ref (ad 90), .ref (ad 91), .ref (ad 92), .ref (ad 93), .ref (ad 94), .ref (ad 95), .ref (ad 96), .ref (ad 97), .ref (ad 98), .ref (ad 99), .ref (ad 100), .ref (ad 101), .int m_lift, .int m_blank, .ref (ad 102), .int m_fm, .int m_at, .int m_pl, .int m_end, .ref (ad 103), .ref (ad 104), .ref (ad 105), .ref (ad 106), .ref (ad 107), .ref (ad 108), .int m_seed]) → C 89 = aI g 12 m_down → C 90 = aI g 12 m_min → C 92 = aI g 12 m_gone → C 93 = aI g 12 m_flow → C 95 = aI g 12 m_str → C 96 = aI g 12 m_from → C 97 = aI g 12 m_to → C 98 = aI g 24 m_rain → C 99 = aI g 4 m_tell → C 102 = aI g 50 m_finds → lv_has ls 6 [(0, .ref (ad 86)), (1, .int p0), (2, .int x3), (3, .int x4), (4, .int x9), (5, .int x10)] → W p l e (headSpec wsX11_lacks rmX11_lacks).room s m args below meth c H locs 0 0 QQ (F0 m 113 ls [.int q26, .int q23]) := by
                    intro C H locs ls hP hS h86 h89 h90 h92 h93 h95 h96 h97 h98 h99 h102 hl
                    obtain ⟨q27, htq27, hf⟩ := bd_e hf
                    have jnq27 : ∀ (C : Nat → va_E) (H : Heap) (locs : List Loc) (ls : Array Slot), va_P D vwCl (wd N ad C) H → va_S (An s.heap.size) s.heap H locs → C 86 = .inr (11, [.ref (ad 87), .int m_len, .ref (ad 88), .int m_rm, .int m_there, .ref (ad 89), .ref (ad 90), .ref (ad 91), .ref (ad 92), .ref (ad 93), .ref (ad 94), .ref (ad 95), .ref (ad 96), .ref (ad 97), .ref (ad 98), .ref (ad 99), .ref (ad 100), .ref (ad 101), .int m_lift, .int m_blank, .ref (ad 102), .int m_fm, .int m_at, .int m_pl, .int m_end, .ref (ad 103), .ref (ad 104), .ref (ad 105), .ref (ad 106), .ref (ad 107), .ref (ad 108), .int m_seed]) → C 89 = aI g 12 m_down → C 90 = aI g 12 m_min → C 92 = aI g 12 m_gone → C 93 = aI g 12 m_flow → C 95 = aI g 12 m_str → C 96 = aI g 12 m_from → C 97 = aI g 12 m_to → C 98 = aI g 24 m_rain → C 99 = aI g 4 m_tell → C 102 = aI g 50 m_finds → lv_has ls 6 [(0, .ref (ad 86)), (1, .int p0), (2, .int x3), (3, .int x4), (4, .int x9), (5, .int x10)] → W p l e (headSpec wsX11_lacks rmX11_lacks).room s m args below meth c H locs 0 0 QQ (F0 m 121 ls [.int q27]) := by
                      intro C H locs ls hP hS h86 h89 h90 h92 h93 h95 h96 h97 h98 h99 h102 hl
                      refine lv_istore (lv' := [(4, .int q27), (0, .ref (ad 86)), (1, .int p0), (2, .int x3), (3, .int x4), (5, .int x10)]) hx hb dX11_lacks_121 hl (by decide) rfl (fun ls hl => ?_)
                      obtain ⟨x28, ex28, hf⟩ := lt_e hf
                      refine lv_iinc (v := x28) (lv' := [(5, .int x28), (4, .int q27), (0, .ref (ad 86)), (1, .int p0), (2, .int x3), (3, .int x4)]) hx hb dX11_lacks_123 hl (k := 5) rfl (by rw [ex28]; rfl) (by decide) rfl (fun ls hl => ?_)
                      refine lv_goto (tgt := 38) hx hb dX11_lacks_126 (by decide) ?_
                      exact ih q27 x28 C H locs ls hP hS h86 h89 h90 h92 h93 h95 h96 h97 h98 h99 h102 (lv_sub hl [2, 3, 4, 5, 1, 0] rfl) hf
                    clear hf
                    have hf := htq27
                    refine lv_icmp_ne (tgt := 120) hx hb dX11_lacks_113 (by decide) (fun c29 => ?_) (fun c29 => ?_)
                    · have hf := ie_e c29 hf
                      refine lv_iconst (v := 0) hx hb dX11_lacks_120 (by decide) ?_
                      obtain rfl := Option.some.inj hf
                      exact jnq27 C H locs ls hP hS h86 h89 h90 h92 h93 h95 h96 h97 h98 h99 h102 (lv_sub hl [0, 1, 2, 3, 4, 5] rfl)
                    · have hf := it_e c29 hf
                      refine lv_iconst (v := 1) hx hb dX11_lacks_116 (by decide) ?_
                      refine lv_goto (tgt := 121) hx hb dX11_lacks_117 (by decide) ?_
                      obtain rfl := Option.some.inj hf
                      exact jnq27 C H locs ls hP hS h86 h89 h90 h92 h93 h95 h96 h97 h98 h99 h102 (lv_sub hl [0, 1, 2, 3, 4, 5] rfl)
                  clear hf
                  have hf := htq26
                  refine lv_icmp_ne (tgt := 112) hx hb dX11_lacks_105 (by decide) (fun c30 => ?_) (fun c30 => ?_)
                  · have hf := ie_e c30 hf
                    refine lv_iconst (v := 0) hx hb dX11_lacks_112 (by decide) ?_
                    obtain rfl := Option.some.inj hf
                    exact jnq26 C H locs ls hP hS h86 h89 h90 h92 h93 h95 h96 h97 h98 h99 h102 (lv_sub hl [0, 1, 2, 3, 4, 5] rfl)
                  · have hf := it_e c30 hf
                    refine lv_iconst (v := 1) hx hb dX11_lacks_108 (by decide) ?_
                    refine lv_goto (tgt := 113) hx hb dX11_lacks_109 (by decide) ?_
                    obtain rfl := Option.some.inj hf
                    exact jnq26 C H locs ls hP hS h86 h89 h90 h92 h93 h95 h96 h97 h98 h99 h102 (lv_sub hl [0, 1, 2, 3, 4, 5] rfl)
          refine key38 _ (fun x11 x12 C H locs ls hP hS h86 h89 h90 h92 h93 h95 h96 h97 h98 h99 h102 hl hf => ?_) FU q8 0 C H locs ls hP hS h86 h89 h90 h92 h93 h95 h96 h97 h98 h99 h102 (lv_sub hl [2, 3, 4, 5, 1, 0] rfl) hf
          refine lv_iload_n hx hb dX11_lacks_129 rfl (lv_at hl 2 rfl) ?_
          refine lv_iload hx hb dX11_lacks_130 (lv_at hl 4 rfl) ?_
          obtain ⟨q31, htq31, hf⟩ := bd_e hf
          have jnq31 : ∀ (C : Nat → va_E) (H : Heap) (locs : List Loc) (ls : Array Slot), va_P D vwCl (wd N ad C) H → va_S (An s.heap.size) s.heap H locs → C 86 = .inr (11, [.ref (ad 87), .int m_len, .ref (ad 88), .int m_rm, .int m_there, .ref (ad 89), .ref (ad 90), .ref (ad 91), .ref (ad 92), .ref (ad 93), .ref (ad 94), .ref (ad 95), .ref (ad 96), .ref (ad 97), .ref (ad 98), .ref (ad 99), .ref (ad 100), .ref (ad 101), .int m_lift, .int m_blank, .ref (ad 102), .int m_fm, .int m_at, .int m_pl, .int m_end, .ref (ad 103), .ref (ad 104), .ref (ad 105), .ref (ad 106), .ref (ad 107), .ref (ad 108), .int m_seed]) → C 89 = aI g 12 m_down → C 90 = aI g 12 m_min → C 92 = aI g 12 m_gone → C 93 = aI g 12 m_flow → C 95 = aI g 12 m_str → C 96 = aI g 12 m_from → C 97 = aI g 12 m_to → C 98 = aI g 24 m_rain → C 99 = aI g 4 m_tell → C 102 = aI g 50 m_finds → lv_has ls 6 [(0, .ref (ad 86)), (1, .int p0), (2, .int x3), (3, .int x4), (4, .int x11), (5, .int x12)] → W p l e (headSpec wsX11_lacks rmX11_lacks).room s m args below meth c H locs 0 0 QQ (F0 m 142 ls [.int q31, .int x3]) := by
            intro C H locs ls hP hS h86 h89 h90 h92 h93 h95 h96 h97 h98 h99 h102 hl
            refine lv_ior hx hb dX11_lacks_142 ?_
            obtain ⟨x32, ex32, hf⟩ := lt_e hf
            refine tp_i ex32 ?_
            refine lv_istore_n (lv' := [(2, .int x32), (0, .ref (ad 86)), (1, .int p0), (3, .int x4), (4, .int x11), (5, .int x12)]) hx hb dX11_lacks_143 rfl hl (by decide) rfl (fun ls hl => ?_)
            obtain ⟨x33, ex33, hf⟩ := lt_e hf
            refine lv_iinc (v := x33) (lv' := [(3, .int x33), (2, .int x32), (0, .ref (ad 86)), (1, .int p0), (4, .int x11), (5, .int x12)]) hx hb dX11_lacks_144 hl (k := 3) rfl (by rw [ex33]; rfl) (by decide) rfl (fun ls hl => ?_)
            refine lv_goto (tgt := 19) hx hb dX11_lacks_147 (by decide) ?_
            exact ih x32 x33 C H locs ls hP hS h86 h89 h90 h92 h93 h95 h96 h97 h98 h99 h102 (lv_sub hl [2, 3, 1, 0] rfl) hf
          clear hf
          have hf := htq31
          refine lv_if_eq (tgt := 141) hx hb dX11_lacks_132 (by decide) (fun c34 => ?_) (fun c34 => ?_)
          · have hf := it_e c34 hf
            refine lv_iconst (v := 0) hx hb dX11_lacks_141 (by decide) ?_
            obtain rfl := Option.some.inj hf
            exact jnq31 C H locs ls hP hS h86 h89 h90 h92 h93 h95 h96 h97 h98 h99 h102 (lv_sub hl [0, 1, 2, 3, 4, 5] rfl)
          · have hf := ie_e c34 hf
            refine lv_iconst (v := 1) hx hb dX11_lacks_135 (by decide) ?_
            refine lv_iload_n hx hb dX11_lacks_136 rfl (lv_at hl 3 rfl) ?_
            refine lv_ishl hx hb dX11_lacks_137 ?_
            refine lv_goto (tgt := 142) hx hb dX11_lacks_138 (by decide) ?_
            obtain rfl := Option.some.inj hf
            exact jnq31 C H locs ls hP hS h86 h89 h90 h92 h93 h95 h96 h97 h98 h99 h102 (lv_sub hl [0, 1, 2, 3, 4, 5] rfl)
    refine key19 _ (fun x5 x6 C H locs ls hP hS h86 h89 h90 h92 h93 h95 h96 h97 h98 h99 h102 hl hf => ?_) FU 0 0 C H locs ls hP hS h86 h89 h90 h92 h93 h95 h96 h97 h98 h99 h102 (lv_sub hl [2, 3, 1, 0] rfl) hf
    refine lv_iload_n hx hb dX11_lacks_150 rfl (lv_at hl 2 rfl) ?_
    obtain rfl := Option.some.inj hf
    rw [← hQ]
    exact e_iR hx hb hr rfl (tP_i _) hS hlocks dX11_lacks_151
  · have hf := it_e c2 hf
    refine lv_bipush (v := (-3)) hx hb dX11_lacks_12 (by decide) ?_
    obtain rfl := Option.some.inj hf
    rw [← hQ]
    exact e_iR hx hb hr rfl (tP_i _) hS hlocks dX11_lacks_14

def LX11_layWays_36 (m_down : Nat → Int32) (m_walk : Nat → Int32) (m_there : Int32) (x1 : Int32) (ko : Int32 → (Nat → Int32) → Option ((Nat → Int32) × (Nat → Int32))) : Nat → Int32 → (Nat → Int32) → Option ((Nat → Int32) × (Nat → Int32))
  | 0, _, _ => none
  | n + 1, x12, f13 =>
    if 12 ≤ x12 then
      ko x12 f13
    else
      (f_X11_has m_there x1).bind fun q17 =>
      (if q17 = 0 then
        some (0)
      else
        (f_X11_has m_there x12).bind fun q23 =>
        if q23 = 0 then
          some (0)
        else
          (f_X11_walkOf x1 x12 m_down m_walk).bind fun q25 =>
          some (q25) : Option (Int32)).bind fun q18 =>
      wi f13 144 (((12 * x1) + x12)) (q18) fun f19 =>
      lt (x12 + 1 : Int32) fun x21 =>
      LX11_layWays_36 m_down m_walk m_there x1 ko n x21 f19
theorem LX11_layWays_36_z (m_down : Nat → Int32) (m_walk : Nat → Int32) (m_there : Int32) (x1 : Int32) (ko : Int32 → (Nat → Int32) → Option ((Nat → Int32) × (Nat → Int32))) (x12 : Int32) (f13 : Nat → Int32) : LX11_layWays_36 m_down m_walk m_there x1 ko 0 x12 f13 = none := rfl
theorem LX11_layWays_36_s (m_down : Nat → Int32) (m_walk : Nat → Int32) (m_there : Int32) (x1 : Int32) (ko : Int32 → (Nat → Int32) → Option ((Nat → Int32) × (Nat → Int32))) (n : Nat) (x12 : Int32) (f13 : Nat → Int32) : LX11_layWays_36 m_down m_walk m_there x1 ko (n + 1) x12 f13 =
    if 12 ≤ x12 then
      ko x12 f13
    else
      (f_X11_has m_there x1).bind fun q17 =>
      (if q17 = 0 then
        some (0)
      else
        (f_X11_has m_there x12).bind fun q23 =>
        if q23 = 0 then
          some (0)
        else
          (f_X11_walkOf x1 x12 m_down m_walk).bind fun q25 =>
          some (q25) : Option (Int32)).bind fun q18 =>
      wi f13 144 (((12 * x1) + x12)) (q18) fun f19 =>
      lt (x12 + 1 : Int32) fun x21 =>
      LX11_layWays_36 m_down m_walk m_there x1 ko n x21 f19 := rfl
def LX11_layWays_2 (m_down : Nat → Int32) (m_walk : Nat → Int32) (m_there : Int32) (ko : Int32 → (Nat → Int32) → (Nat → Int32) → Option ((Nat → Int32) × (Nat → Int32))) : Nat → Int32 → (Nat → Int32) → (Nat → Int32) → Option ((Nat → Int32) × (Nat → Int32))
  | 0, _, _, _ => none
  | n + 1, x1, f2, f3 =>
    if 12 ≤ x1 then
      ko x1 f2 f3
    else
      (f_X11_has m_there x1).bind fun q8 =>
      (if q8 = 0 then
        some (0)
      else
        (f_X11_aboveOf x1 m_down m_there).bind fun q28 =>
        some (q28) : Option (Int32)).bind fun q9 =>
      wi f2 12 (x1) (q9) fun f10 =>
      LX11_layWays_36 m_down m_walk m_there x1 (fun x14 f15 =>
        lt (x1 + 1 : Int32) fun x26 =>
        LX11_layWays_2 m_down m_walk m_there ko n x26 f10 f15) FU 0 f3
theorem LX11_layWays_2_z (m_down : Nat → Int32) (m_walk : Nat → Int32) (m_there : Int32) (ko : Int32 → (Nat → Int32) → (Nat → Int32) → Option ((Nat → Int32) × (Nat → Int32))) (x1 : Int32) (f2 : Nat → Int32) (f3 : Nat → Int32) : LX11_layWays_2 m_down m_walk m_there ko 0 x1 f2 f3 = none := rfl
theorem LX11_layWays_2_s (m_down : Nat → Int32) (m_walk : Nat → Int32) (m_there : Int32) (ko : Int32 → (Nat → Int32) → (Nat → Int32) → Option ((Nat → Int32) × (Nat → Int32))) (n : Nat) (x1 : Int32) (f2 : Nat → Int32) (f3 : Nat → Int32) : LX11_layWays_2 m_down m_walk m_there ko (n + 1) x1 f2 f3 =
    if 12 ≤ x1 then
      ko x1 f2 f3
    else
      (f_X11_has m_there x1).bind fun q8 =>
      (if q8 = 0 then
        some (0)
      else
        (f_X11_aboveOf x1 m_down m_there).bind fun q28 =>
        some (q28) : Option (Int32)).bind fun q9 =>
      wi f2 12 (x1) (q9) fun f10 =>
      LX11_layWays_36 m_down m_walk m_there x1 (fun x14 f15 =>
        lt (x1 + 1 : Int32) fun x26 =>
        LX11_layWays_2 m_down m_walk m_there ko n x26 f10 f15) FU 0 f3 := rfl
def f_X11_layWays (m_down : Nat → Int32) (m_walk : Nat → Int32) (m_abv : Nat → Int32) (m_apart : Nat → Int32) (m_there : Int32) : Option ((Nat → Int32) × (Nat → Int32)) :=
  LX11_layWays_2 m_down m_walk m_there (fun x4 f5 f6 =>
    some (f5, f6)) FU 0 m_abv m_apart
abbrev rmX11_layWays : Room := { frames := 2, cells := 0, slots := 0, locals := 48 }
set_option maxHeartbeats 4000000 in
set_option maxRecDepth 100000 in
theorem c_X11_layWays {l : Launch} {D : va_G} {g : Nat → ClassId} {N : Nat} {ad : Nat → Nat} {C : Nat → va_E} {sz : Nat} {m_len : Int32} {m_rm : Int32} {m_there : Int32} {m_lift : Int32} {m_blank : Int32} {m_fm : Int32} {m_at : Int32} {m_pl : Int32} {m_end : Int32} {m_seed : Int32} {m_down : Nat → Int32} {m_walk : Nat → Int32} {m_abv : Nat → Int32} {m_apart : Nat → Int32}  {rr : (Nat → Int32) × (Nat → Int32)} (hN : 109 ≤ N) (hI : Inj N ad) (h86 : C 86 = .inr (11, [.ref (ad 87), .int m_len, .ref (ad 88), .int m_rm, .int m_there, .ref (ad 89), .ref (ad 90), .ref (ad 91), .ref (ad 92), .ref (ad 93), .ref (ad 94), .ref (ad 95), .ref (ad 96), .ref (ad 97), .ref (ad 98), .ref (ad 99), .ref (ad 100), .ref (ad 101), .int m_lift, .int m_blank, .ref (ad 102), .int m_fm, .int m_at, .int m_pl, .int m_end, .ref (ad 103), .ref (ad 104), .ref (ad 105), .ref (ad 106), .ref (ad 107), .ref (ad 108), .int m_seed])) (h89 : C 89 = aI g 12 m_down) (h91 : C 91 = aI g 12 m_walk) (h103 : C 103 = aI g 12 m_abv) (h104 : C 104 = aI g 144 m_apart) (hf : f_X11_layWays m_down m_walk m_abv m_apart m_there = some rr) : Met l yX11_layWays wsX11_layWays rmX11_layWays (PcW D g N ad C sz [.ref (ad 86)]) (QvW D N ad sz (fun C' => (∀ i : Nat, i ≠ 103 ∧ i ≠ 104 → C' i = C i) ∧ (C' 103 = aI g 12 rr.1) ∧ (C' 104 = aI g 144 rr.2))) 0 0 (Aw N ad sz) := by
  refine Met.ofW (cc := cX11_layWays) (maxL := 3) (ret := none) (by decide) rfl ?_
  intro p e s m args below meth c s₁ B hml hv
  obtain ⟨hav, hsz, hK, hP⟩ := hv
  subst hsz
  have hx := B.exec
  have hb := B.bytes
  have hr := B.returns
  have hts := atoms_spec (ws := wsX11_layWays) B.pre
  have hown : s.vm.findClass RX11 = some m.cls := findClass_of_methodNamed B.named
  have hlocks := B.notSynchronized
  generalize hQ : MQ below (QvW D N ad s.heap.size (fun C' => (∀ i : Nat, i ≠ 103 ∧ i ≠ 104 → C' i = C i) ∧ (C' 103 = aI g 12 rr.1) ∧ (C' 104 = aI g 144 rr.2))) args s 0 0 (Aw N ad s.heap.size) = QQ
  have hS : va_S (Aw N ad s.heap.size) s.heap s.heap [] := va_S.rf
  have hA : ∀ q, s.heap.size ≤ q → (Aw N ad s.heap.size) q := fun q h => Or.inr h
  have hAd : ∀ j : Nat, j < N → (Aw N ad s.heap.size) (ad j) := fun j h => Or.inl ⟨j, h, rfl⟩
  obtain ⟨C0, hC0⟩ : ∃ C0 : Nat → va_E, C0 = C := ⟨_, rfl⟩
  have hag : ∀ i : Nat, i ≠ 103 ∧ i ≠ 104 → C i = C0 i := fun i _ => by rw [hC0]
  rw [← hC0] at hQ
  have k0 := hts (.fieldLink RX11 62 "UpDrainModel" "aboves" "[I") (List.mem_of_getElem? (i := 1) rfl)
  have nX11 : ∀ w ∈ u_ws RX11 TX11 32, w ∈ wsX11_layWays := fun _ h => List.mem_cons_of_mem _ (List.mem_append_right _ h)
  have k2 := hts (.fieldLink RX11 16 "UpDrainModel" "there" "I") (List.mem_of_getElem? (i := 2) rfl)
  have k3 := hts (.fieldLink RX11 65 "UpDrainModel" "apart" "[I") (List.mem_of_getElem? (i := 3) rfl)
  have hE := lg_entry_eq m [.ref (ad 86)] 3
  rw [← hav] at hE
  rw [hE]
  have hl := lv_entry [.ref (ad 86)] (n := 3) (Nat.le_of_ble_eq_true rfl)
  generalize (lg_sl [.ref (ad 86)] ++ List.replicate (3 - (lg_sl [.ref (ad 86)]).length) Slot.unset).toArray = ls at hl ⊢
  have hl : lv_has ls 3 [(0, .ref (ad 86))] := hl
  clear hE
  unfold f_X11_layWays at hf
  suffices hgo : ∀ (H : Heap) (locs : List Loc), va_P D vwCl (wd N ad C) H → va_S (Aw N ad s.heap.size) s.heap H locs → W p l e (headSpec wsX11_layWays rmX11_layWays).room s m args below meth c H locs 0 0 QQ (F0 m 0 ls []) from hgo s.heap [] hP hS
  clear hS hP
  intro H locs hP hS
  refine lv_iconst (v := 0) hx hb dX11_layWays_0 (by decide) ?_
  refine lv_istore_n (lv' := [(1, .int 0), (0, .ref (ad 86))]) hx hb dX11_layWays_1 rfl hl (by decide) rfl (fun ls hl => ?_)
  have key2 : ∀ (ko : Int32 → (Nat → Int32) → (Nat → Int32) → Option ((Nat → Int32) × (Nat → Int32))), (∀ (x4 : Int32) (f5 : Nat → Int32) (f6 : Nat → Int32) (C : Nat → va_E) (H : Heap) (locs : List Loc) (ls : Array Slot), va_P D vwCl (wd N ad C) H → va_S (Aw N ad s.heap.size) s.heap H locs → (∀ i : Nat, i ≠ 103 ∧ i ≠ 104 → C i = C0 i) → C 86 = .inr (11, [.ref (ad 87), .int m_len, .ref (ad 88), .int m_rm, .int m_there, .ref (ad 89), .ref (ad 90), .ref (ad 91), .ref (ad 92), .ref (ad 93), .ref (ad 94), .ref (ad 95), .ref (ad 96), .ref (ad 97), .ref (ad 98), .ref (ad 99), .ref (ad 100), .ref (ad 101), .int m_lift, .int m_blank, .ref (ad 102), .int m_fm, .int m_at, .int m_pl, .int m_end, .ref (ad 103), .ref (ad 104), .ref (ad 105), .ref (ad 106), .ref (ad 107), .ref (ad 108), .int m_seed]) → C 89 = aI g 12 m_down → C 91 = aI g 12 m_walk → C 103 = aI g 12 f5 → C 104 = aI g 144 f6 → lv_has ls 3 [(0, .ref (ad 86)), (1, .int x4)] → ko x4 f5 f6 = some rr → W p l e (headSpec wsX11_layWays rmX11_layWays).room s m args below meth c H locs 0 0 QQ (F0 m 97 ls [])) → ∀ (n : Nat) (x1 : Int32) (f2 : Nat → Int32) (f3 : Nat → Int32) (C : Nat → va_E) (H : Heap) (locs : List Loc) (ls : Array Slot), va_P D vwCl (wd N ad C) H → va_S (Aw N ad s.heap.size) s.heap H locs → (∀ i : Nat, i ≠ 103 ∧ i ≠ 104 → C i = C0 i) → C 86 = .inr (11, [.ref (ad 87), .int m_len, .ref (ad 88), .int m_rm, .int m_there, .ref (ad 89), .ref (ad 90), .ref (ad 91), .ref (ad 92), .ref (ad 93), .ref (ad 94), .ref (ad 95), .ref (ad 96), .ref (ad 97), .ref (ad 98), .ref (ad 99), .ref (ad 100), .ref (ad 101), .int m_lift, .int m_blank, .ref (ad 102), .int m_fm, .int m_at, .int m_pl, .int m_end, .ref (ad 103), .ref (ad 104), .ref (ad 105), .ref (ad 106), .ref (ad 107), .ref (ad 108), .int m_seed]) → C 89 = aI g 12 m_down → C 91 = aI g 12 m_walk → C 103 = aI g 12 f2 → C 104 = aI g 144 f3 → lv_has ls 3 [(0, .ref (ad 86)), (1, .int x1)] → LX11_layWays_2 m_down m_walk m_there ko n x1 f2 f3 = some rr → W p l e (headSpec wsX11_layWays rmX11_layWays).room s m args below meth c H locs 0 0 QQ (F0 m 2 ls []) := by
    intro ko hko n
    induction n with
    | zero =>
      intro x1 f2 f3 C H locs ls hP hS hag h86 h89 h91 h103 h104 hl hf
      rw [LX11_layWays_2_z] at hf
      cases hf
    | succ n ih =>
      intro x1 f2 f3 C H locs ls hP hS hag h86 h89 h91 h103 h104 hl hf
      rw [LX11_layWays_2_s] at hf
      refine lv_iload_n hx hb dX11_layWays_2 rfl (lv_at hl 1 rfl) ?_
      refine lv_bipush (v := 12) hx hb dX11_layWays_3 (by decide) ?_
      refine lv_icmp_ge (tgt := 97) hx hb dX11_layWays_5 (by decide) (fun c7 => ?_) (fun c7 => ?_)
      · have hf := it_e c7 hf
        exact hko x1 f2 f3 C H locs ls hP hS hag h86 h89 h91 h103 h104 (lv_sub hl [0, 1] rfl) hf
      · have hf := ie_e c7 hf
        refine lv_aload_n hx hb dX11_layWays_8 rfl (lv_at hl 0 rfl) ?_
        refine r_get (own := RX11) (T := TX11) (n := 32) (ci := 11) (v := .ref (ad 103)) hx hb hts nX11 hown hK hP (by omega) h86 rfl 25 (by decide) k0 rfl dX11_layWays_9 ?_
        refine lv_iload_n hx hb dX11_layWays_12 rfl (lv_at hl 1 rfl) ?_
        refine lv_aload_n hx hb dX11_layWays_13 rfl (lv_at hl 0 rfl) ?_
        refine r_get (own := RX11) (T := TX11) (n := 32) (ci := 11) (v := .int m_there) hx hb hts nX11 hown hK hP (by omega) h86 rfl 4 (by decide) k2 rfl dX11_layWays_14 ?_
        refine lv_iload_n hx hb dX11_layWays_17 rfl (lv_at hl 1 rfl) ?_
        obtain ⟨q8, hq8, hf⟩ := bd_e hf
        refine k_iR (va_runS (As := [.int m_there, .int x1]) (rest := [.int x1, .ref (ad 103)]) ⟨hx, hb, hml, hown, hts⟩ (c_X11_has (l := l) (sz := H.size) (p0 := m_there) (p1 := x1) hq8) (va_cwS 2 hts gX11_layWays_X11_has rfl rfl rfl (by decide +kernel) ⟨Nat.le_of_ble_eq_true rfl, Nat.le_of_ble_eq_true rfl⟩) preS0 rfl rfl hl.1 rfl (lv_room (Nat.le_of_ble_eq_true rfl)) dX11_layWays_18 ⟨Nat.le_of_ble_eq_true rfl, Nat.le_of_ble_eq_true rfl⟩) hA hP hS (fun H locs hP hS hbz_q8 => ?_)
        obtain ⟨q9, htq9, hf⟩ := bd_e hf
        have jnq9 : ∀ (C : Nat → va_E) (H : Heap) (locs : List Loc) (ls : Array Slot), va_P D vwCl (wd N ad C) H → va_S (Aw N ad s.heap.size) s.heap H locs → (∀ i : Nat, i ≠ 103 ∧ i ≠ 104 → C i = C0 i) → C 86 = .inr (11, [.ref (ad 87), .int m_len, .ref (ad 88), .int m_rm, .int m_there, .ref (ad 89), .ref (ad 90), .ref (ad 91), .ref (ad 92), .ref (ad 93), .ref (ad 94), .ref (ad 95), .ref (ad 96), .ref (ad 97), .ref (ad 98), .ref (ad 99), .ref (ad 100), .ref (ad 101), .int m_lift, .int m_blank, .ref (ad 102), .int m_fm, .int m_at, .int m_pl, .int m_end, .ref (ad 103), .ref (ad 104), .ref (ad 105), .ref (ad 106), .ref (ad 107), .ref (ad 108), .int m_seed]) → C 89 = aI g 12 m_down → C 91 = aI g 12 m_walk → C 103 = aI g 12 f2 → C 104 = aI g 144 f3 → lv_has ls 3 [(0, .ref (ad 86)), (1, .int x1)] → W p l e (headSpec wsX11_layWays rmX11_layWays).room s m args below meth c H locs 0 0 QQ (F0 m 33 ls [.int q9, .int x1, .ref (ad 103)]) := by
          intro C H locs ls hP hS hag h86 h89 h91 h103 h104 hl
          obtain ⟨i11, f10, ef10, hf⟩ := wi_e hf
          refine r_iast hx hb hK hI hAd hP hS (by omega) h103 i11 dX11_layWays_33 ef10 (fun C H locs hP hS he hn => ?_)
          have hag : ∀ i : Nat, i ≠ 103 ∧ i ≠ 104 → C i = C0 i := fun i h => (he i (by omega)).trans (hag i h)
          have h86 := (he 86 (by decide)).trans h86
          have h89 := (he 89 (by decide)).trans h89
          have h91 := (he 91 (by decide)).trans h91
          have h104 := (he 104 (by decide)).trans h104
          have h103 : C 103 = aI g 12 f10 := hn
          refine lv_iconst (v := 0) hx hb dX11_layWays_34 (by decide) ?_
          refine lv_istore_n (lv' := [(2, .int 0), (0, .ref (ad 86)), (1, .int x1)]) hx hb dX11_layWays_35 rfl hl (by decide) rfl (fun ls hl => ?_)
          have key36 : ∀ (ko : Int32 → (Nat → Int32) → Option ((Nat → Int32) × (Nat → Int32))), (∀ (x14 : Int32) (f15 : Nat → Int32) (C : Nat → va_E) (H : Heap) (locs : List Loc) (ls : Array Slot), va_P D vwCl (wd N ad C) H → va_S (Aw N ad s.heap.size) s.heap H locs → (∀ i : Nat, i ≠ 103 ∧ i ≠ 104 → C i = C0 i) → C 86 = .inr (11, [.ref (ad 87), .int m_len, .ref (ad 88), .int m_rm, .int m_there, .ref (ad 89), .ref (ad 90), .ref (ad 91), .ref (ad 92), .ref (ad 93), .ref (ad 94), .ref (ad 95), .ref (ad 96), .ref (ad 97), .ref (ad 98), .ref (ad 99), .ref (ad 100), .ref (ad 101), .int m_lift, .int m_blank, .ref (ad 102), .int m_fm, .int m_at, .int m_pl, .int m_end, .ref (ad 103), .ref (ad 104), .ref (ad 105), .ref (ad 106), .ref (ad 107), .ref (ad 108), .int m_seed]) → C 89 = aI g 12 m_down → C 91 = aI g 12 m_walk → C 103 = aI g 12 f10 → C 104 = aI g 144 f15 → lv_has ls 3 [(0, .ref (ad 86)), (1, .int x1), (2, .int x14)] → ko x14 f15 = some rr → W p l e (headSpec wsX11_layWays rmX11_layWays).room s m args below meth c H locs 0 0 QQ (F0 m 91 ls [])) → ∀ (n : Nat) (x12 : Int32) (f13 : Nat → Int32) (C : Nat → va_E) (H : Heap) (locs : List Loc) (ls : Array Slot), va_P D vwCl (wd N ad C) H → va_S (Aw N ad s.heap.size) s.heap H locs → (∀ i : Nat, i ≠ 103 ∧ i ≠ 104 → C i = C0 i) → C 86 = .inr (11, [.ref (ad 87), .int m_len, .ref (ad 88), .int m_rm, .int m_there, .ref (ad 89), .ref (ad 90), .ref (ad 91), .ref (ad 92), .ref (ad 93), .ref (ad 94), .ref (ad 95), .ref (ad 96), .ref (ad 97), .ref (ad 98), .ref (ad 99), .ref (ad 100), .ref (ad 101), .int m_lift, .int m_blank, .ref (ad 102), .int m_fm, .int m_at, .int m_pl, .int m_end, .ref (ad 103), .ref (ad 104), .ref (ad 105), .ref (ad 106), .ref (ad 107), .ref (ad 108), .int m_seed]) → C 89 = aI g 12 m_down → C 91 = aI g 12 m_walk → C 103 = aI g 12 f10 → C 104 = aI g 144 f13 → lv_has ls 3 [(0, .ref (ad 86)), (1, .int x1), (2, .int x12)] → LX11_layWays_36 m_down m_walk m_there x1 ko n x12 f13 = some rr → W p l e (headSpec wsX11_layWays rmX11_layWays).room s m args below meth c H locs 0 0 QQ (F0 m 36 ls []) := by
            intro ko hko n
            induction n with
            | zero =>
              intro x12 f13 C H locs ls hP hS hag h86 h89 h91 h103 h104 hl hf
              rw [LX11_layWays_36_z] at hf
              cases hf
            | succ n ih =>
              intro x12 f13 C H locs ls hP hS hag h86 h89 h91 h103 h104 hl hf
              rw [LX11_layWays_36_s] at hf
              refine lv_iload_n hx hb dX11_layWays_36 rfl (lv_at hl 2 rfl) ?_
              refine lv_bipush (v := 12) hx hb dX11_layWays_37 (by decide) ?_
              refine lv_icmp_ge (tgt := 91) hx hb dX11_layWays_39 (by decide) (fun c16 => ?_) (fun c16 => ?_)
              · have hf := it_e c16 hf
                exact hko x12 f13 C H locs ls hP hS hag h86 h89 h91 h103 h104 (lv_sub hl [0, 1, 2] rfl) hf
              · have hf := ie_e c16 hf
                refine lv_aload_n hx hb dX11_layWays_42 rfl (lv_at hl 0 rfl) ?_
                refine r_get (own := RX11) (T := TX11) (n := 32) (ci := 11) (v := .ref (ad 104)) hx hb hts nX11 hown hK hP (by omega) h86 rfl 26 (by decide) k3 rfl dX11_layWays_43 ?_
                refine lv_bipush (v := 12) hx hb dX11_layWays_46 (by decide) ?_
                refine lv_iload_n hx hb dX11_layWays_48 rfl (lv_at hl 1 rfl) ?_
                refine lv_imul hx hb dX11_layWays_49 ?_
                refine lv_iload_n hx hb dX11_layWays_50 rfl (lv_at hl 2 rfl) ?_
                refine lv_iadd hx hb dX11_layWays_51 ?_
                refine lv_aload_n hx hb dX11_layWays_52 rfl (lv_at hl 0 rfl) ?_
                refine r_get (own := RX11) (T := TX11) (n := 32) (ci := 11) (v := .int m_there) hx hb hts nX11 hown hK hP (by omega) h86 rfl 4 (by decide) k2 rfl dX11_layWays_53 ?_
                refine lv_iload_n hx hb dX11_layWays_56 rfl (lv_at hl 1 rfl) ?_
                obtain ⟨q17, hq17, hf⟩ := bd_e hf
                refine k_iR (va_runS (As := [.int m_there, .int x1]) (rest := [.int ((12 * x1) + x12), .ref (ad 104)]) ⟨hx, hb, hml, hown, hts⟩ (c_X11_has (l := l) (sz := H.size) (p0 := m_there) (p1 := x1) hq17) (va_cwS 2 hts gX11_layWays_X11_has rfl rfl rfl (by decide +kernel) ⟨Nat.le_of_ble_eq_true rfl, Nat.le_of_ble_eq_true rfl⟩) preS0 rfl rfl hl.1 rfl (lv_room (Nat.le_of_ble_eq_true rfl)) dX11_layWays_57 ⟨Nat.le_of_ble_eq_true rfl, Nat.le_of_ble_eq_true rfl⟩) hA hP hS (fun H locs hP hS hbz_q17 => ?_)
                obtain ⟨q18, htq18, hf⟩ := bd_e hf
                have jnq18 : ∀ (C : Nat → va_E) (H : Heap) (locs : List Loc) (ls : Array Slot), va_P D vwCl (wd N ad C) H → va_S (Aw N ad s.heap.size) s.heap H locs → (∀ i : Nat, i ≠ 103 ∧ i ≠ 104 → C i = C0 i) → C 86 = .inr (11, [.ref (ad 87), .int m_len, .ref (ad 88), .int m_rm, .int m_there, .ref (ad 89), .ref (ad 90), .ref (ad 91), .ref (ad 92), .ref (ad 93), .ref (ad 94), .ref (ad 95), .ref (ad 96), .ref (ad 97), .ref (ad 98), .ref (ad 99), .ref (ad 100), .ref (ad 101), .int m_lift, .int m_blank, .ref (ad 102), .int m_fm, .int m_at, .int m_pl, .int m_end, .ref (ad 103), .ref (ad 104), .ref (ad 105), .ref (ad 106), .ref (ad 107), .ref (ad 108), .int m_seed]) → C 89 = aI g 12 m_down → C 91 = aI g 12 m_walk → C 103 = aI g 12 f10 → C 104 = aI g 144 f13 → lv_has ls 3 [(0, .ref (ad 86)), (1, .int x1), (2, .int x12)] → W p l e (headSpec wsX11_layWays rmX11_layWays).room s m args below meth c H locs 0 0 QQ (F0 m 84 ls [.int q18, .int ((12 * x1) + x12), .ref (ad 104)]) := by
                  intro C H locs ls hP hS hag h86 h89 h91 h103 h104 hl
                  obtain ⟨i20, f19, ef19, hf⟩ := wi_e hf
                  refine r_iast hx hb hK hI hAd hP hS (by omega) h104 i20 dX11_layWays_84 ef19 (fun C H locs hP hS he hn => ?_)
                  have hag : ∀ i : Nat, i ≠ 103 ∧ i ≠ 104 → C i = C0 i := fun i h => (he i (by omega)).trans (hag i h)
                  have h86 := (he 86 (by decide)).trans h86
                  have h89 := (he 89 (by decide)).trans h89
                  have h91 := (he 91 (by decide)).trans h91
                  have h103 := (he 103 (by decide)).trans h103
                  have h104 : C 104 = aI g 144 f19 := hn
                  obtain ⟨x21, ex21, hf⟩ := lt_e hf
                  refine lv_iinc (v := x21) (lv' := [(2, .int x21), (0, .ref (ad 86)), (1, .int x1)]) hx hb dX11_layWays_85 hl (k := 2) rfl (by rw [ex21]; rfl) (by decide) rfl (fun ls hl => ?_)
                  refine lv_goto (tgt := 36) hx hb dX11_layWays_88 (by decide) ?_
                  exact ih x21 f19 C H locs ls hP hS hag h86 h89 h91 h103 h104 (lv_sub hl [1, 2, 0] rfl) hf
                clear hf
                have hf := htq18
                refine lv_if_eq (tgt := 83) hx hb dX11_layWays_60 (by decide) (fun c22 => ?_) (fun c22 => ?_)
                · have hf := it_e c22 hf
                  refine lv_iconst (v := 0) hx hb dX11_layWays_83 (by decide) ?_
                  obtain rfl := Option.some.inj hf
                  exact jnq18 C H locs ls hP hS hag h86 h89 h91 h103 h104 (lv_sub hl [0, 1, 2] rfl)
                · have hf := ie_e c22 hf
                  refine lv_aload_n hx hb dX11_layWays_63 rfl (lv_at hl 0 rfl) ?_
                  refine r_get (own := RX11) (T := TX11) (n := 32) (ci := 11) (v := .int m_there) hx hb hts nX11 hown hK hP (by omega) h86 rfl 4 (by decide) k2 rfl dX11_layWays_64 ?_
                  refine lv_iload_n hx hb dX11_layWays_67 rfl (lv_at hl 2 rfl) ?_
                  obtain ⟨q23, hq23, hf⟩ := bd_e hf
                  refine k_iR (va_runS (As := [.int m_there, .int x12]) (rest := [.int ((12 * x1) + x12), .ref (ad 104)]) ⟨hx, hb, hml, hown, hts⟩ (c_X11_has (l := l) (sz := H.size) (p0 := m_there) (p1 := x12) hq23) (va_cwS 2 hts gX11_layWays_X11_has rfl rfl rfl (by decide +kernel) ⟨Nat.le_of_ble_eq_true rfl, Nat.le_of_ble_eq_true rfl⟩) preS0 rfl rfl hl.1 rfl (lv_room (Nat.le_of_ble_eq_true rfl)) dX11_layWays_68 ⟨Nat.le_of_ble_eq_true rfl, Nat.le_of_ble_eq_true rfl⟩) hA hP hS (fun H locs hP hS hbz_q23 => ?_)
                  refine lv_if_eq (tgt := 83) hx hb dX11_layWays_71 (by decide) (fun c24 => ?_) (fun c24 => ?_)
                  · have hf := it_e c24 hf
                    refine lv_iconst (v := 0) hx hb dX11_layWays_83 (by decide) ?_
                    obtain rfl := Option.some.inj hf
                    exact jnq18 C H locs ls hP hS hag h86 h89 h91 h103 h104 (lv_sub hl [0, 1, 2] rfl)
                  · have hf := ie_e c24 hf
                    refine lv_aload_n hx hb dX11_layWays_74 rfl (lv_at hl 0 rfl) ?_
                    refine lv_iload_n hx hb dX11_layWays_75 rfl (lv_at hl 1 rfl) ?_
                    refine lv_iload_n hx hb dX11_layWays_76 rfl (lv_at hl 2 rfl) ?_
                    obtain ⟨q25, hq25, hf⟩ := bd_e hf
                    refine k_iR (va_runV (C := RX11) (As := [.int x1, .int x12]) (rest := [.int ((12 * x1) + x12), .ref (ad 104)]) ⟨hx, hb, hml, hown, hts⟩ (c_X11_walkOf (l := l) (sz := H.size) (p0 := x1) (p1 := x12) hN h86 h89 h91 hq25) (cwV 2 hts gX11_layWays_X11_walkOf rfl rfl rfl (by decide +kernel) ⟨Nat.le_of_ble_eq_true rfl, Nat.le_of_ble_eq_true rfl⟩) (preV_of hK hP (by omega) h86 rfl) rfl rfl hl.1 rfl (lv_room (Nat.le_of_ble_eq_true rfl)) dX11_layWays_77 ⟨Nat.le_of_ble_eq_true rfl, Nat.le_of_ble_eq_true rfl⟩) hA hP hS (fun H locs hP hS hbz_q25 => ?_)
                    refine lv_goto (tgt := 84) hx hb dX11_layWays_80 (by decide) ?_
                    obtain rfl := Option.some.inj hf
                    exact jnq18 C H locs ls hP hS hag h86 h89 h91 h103 h104 (lv_sub hl [0, 1, 2] rfl)
          refine key36 _ (fun x14 f15 C H locs ls hP hS hag h86 h89 h91 h103 h104 hl hf => ?_) FU 0 f3 C H locs ls hP hS hag h86 h89 h91 h103 h104 (lv_sub hl [1, 2, 0] rfl) hf
          obtain ⟨x26, ex26, hf⟩ := lt_e hf
          refine lv_iinc (v := x26) (lv' := [(1, .int x26), (0, .ref (ad 86)), (2, .int x14)]) hx hb dX11_layWays_91 hl (k := 1) rfl (by rw [ex26]; rfl) (by decide) rfl (fun ls hl => ?_)
          refine lv_goto (tgt := 2) hx hb dX11_layWays_94 (by decide) ?_
          exact ih x26 f10 f15 C H locs ls hP hS hag h86 h89 h91 h103 h104 (lv_sub hl [1, 0] rfl) hf
        clear hf
        have hf := htq9
        refine lv_if_eq (tgt := 32) hx hb dX11_layWays_21 (by decide) (fun c27 => ?_) (fun c27 => ?_)
        · have hf := it_e c27 hf
          refine lv_iconst (v := 0) hx hb dX11_layWays_32 (by decide) ?_
          obtain rfl := Option.some.inj hf
          exact jnq9 C H locs ls hP hS hag h86 h89 h91 h103 h104 (lv_sub hl [0, 1] rfl)
        · have hf := ie_e c27 hf
          refine lv_aload_n hx hb dX11_layWays_24 rfl (lv_at hl 0 rfl) ?_
          refine lv_iload_n hx hb dX11_layWays_25 rfl (lv_at hl 1 rfl) ?_
          obtain ⟨q28, hq28, hf⟩ := bd_e hf
          refine k_iR (va_runV (C := RX11) (As := [.int x1]) (rest := [.int x1, .ref (ad 103)]) ⟨hx, hb, hml, hown, hts⟩ (c_X11_aboveOf (l := l) (sz := H.size) (p0 := x1) hN h86 h89 hq28) (cwV 1 hts gX11_layWays_X11_aboveOf rfl rfl rfl (by decide +kernel) ⟨Nat.le_of_ble_eq_true rfl, Nat.le_of_ble_eq_true rfl⟩) (preV_of hK hP (by omega) h86 rfl) rfl rfl hl.1 rfl (lv_room (Nat.le_of_ble_eq_true rfl)) dX11_layWays_26 ⟨Nat.le_of_ble_eq_true rfl, Nat.le_of_ble_eq_true rfl⟩) hA hP hS (fun H locs hP hS hbz_q28 => ?_)
          refine lv_goto (tgt := 33) hx hb dX11_layWays_29 (by decide) ?_
          obtain rfl := Option.some.inj hf
          exact jnq9 C H locs ls hP hS hag h86 h89 h91 h103 h104 (lv_sub hl [0, 1] rfl)
  refine key2 _ (fun x4 f5 f6 C H locs ls hP hS hag h86 h89 h91 h103 h104 hl hf => ?_) FU 0 m_abv m_apart C H locs ls hP hS hag h86 h89 h91 h103 h104 (lv_sub hl [1, 0] rfl) hf
  obtain rfl := Option.some.inj hf
  rw [← hQ]
  exact e_vW hx hb hr hP hS ⟨hag, h103, h104⟩ hlocks dX11_layWays_97

def f_X11_parts (p0 : Int32) (p1 : Int32) (m_abv : Nat → Int32) (m_there : Int32) : Option (Int32) :=
  (f_X11_has m_there p0).bind fun q1 =>
  if q1 = 0 then
    some (0)
  else
    ri m_abv 12 (p0) fun x3 =>
    if (p1 &&& x3) = 0 then
      some (0)
    else
      ri m_abv 12 (p0) fun x6 =>
      if (p1 &&& (x6 ^^^ (-1))) = 0 then
        some (0)
      else
        some (1)
abbrev rmX11_parts : Room := { frames := 1, cells := 0, slots := 0, locals := 21 }
set_option maxHeartbeats 4000000 in
set_option maxRecDepth 100000 in
theorem c_X11_parts {l : Launch} {D : va_G} {g : Nat → ClassId} {N : Nat} {ad : Nat → Nat} {C : Nat → va_E} {sz : Nat} {m_len : Int32} {m_rm : Int32} {m_there : Int32} {m_lift : Int32} {m_blank : Int32} {m_fm : Int32} {m_at : Int32} {m_pl : Int32} {m_end : Int32} {m_seed : Int32} {m_abv : Nat → Int32} {p0 : Int32} {p1 : Int32} {rr : Int32} (hN : 109 ≤ N) (h86 : C 86 = .inr (11, [.ref (ad 87), .int m_len, .ref (ad 88), .int m_rm, .int m_there, .ref (ad 89), .ref (ad 90), .ref (ad 91), .ref (ad 92), .ref (ad 93), .ref (ad 94), .ref (ad 95), .ref (ad 96), .ref (ad 97), .ref (ad 98), .ref (ad 99), .ref (ad 100), .ref (ad 101), .int m_lift, .int m_blank, .ref (ad 102), .int m_fm, .int m_at, .int m_pl, .int m_end, .ref (ad 103), .ref (ad 104), .ref (ad 105), .ref (ad 106), .ref (ad 107), .ref (ad 108), .int m_seed])) (h103 : C 103 = aI g 12 m_abv) (hf : f_X11_parts p0 p1 m_abv m_there = some rr) : Met l yX11_parts wsX11_parts rmX11_parts (PcW D g N ad C sz [.ref (ad 86), .int p0, .int p1]) (QiR sz bz rr) 0 0 (An sz) := by
  refine Met.ofW (cc := cX11_parts) (maxL := 3) (ret := (some .boolean)) (by decide) rfl ?_
  intro p e s m args below meth c s₁ B hml hv
  obtain ⟨hav, hsz, hK, hP⟩ := hv
  subst hsz
  have hx := B.exec
  have hb := B.bytes
  have hr := B.returns
  have hts := atoms_spec (ws := wsX11_parts) B.pre
  have hown : s.vm.findClass RX11 = some m.cls := findClass_of_methodNamed B.named
  have hlocks := B.notSynchronized
  generalize hQ : MQ below (QiR s.heap.size bz rr) args s 0 0 (An s.heap.size) = QQ
  have hS : va_S (An s.heap.size) s.heap s.heap [] := va_S.rf
  have hA : ∀ q, s.heap.size ≤ q → (An s.heap.size) q := fun q h => h
  have k0 := hts (.fieldLink RX11 16 "UpDrainModel" "there" "I") (List.mem_of_getElem? (i := 1) rfl)
  have nX11 : ∀ w ∈ u_ws RX11 TX11 32, w ∈ wsX11_parts := fun _ h => List.mem_cons_of_mem _ (List.mem_append_right _ h)
  have k2 := hts (.fieldLink RX11 62 "UpDrainModel" "aboves" "[I") (List.mem_of_getElem? (i := 2) rfl)
  have hE := lg_entry_eq m [.ref (ad 86), .int p0, .int p1] 3
  rw [← hav] at hE
  rw [hE]
  have hl := lv_entry [.ref (ad 86), .int p0, .int p1] (n := 3) (Nat.le_of_ble_eq_true rfl)
  generalize (lg_sl [.ref (ad 86), .int p0, .int p1] ++ List.replicate (3 - (lg_sl [.ref (ad 86), .int p0, .int p1]).length) Slot.unset).toArray = ls at hl ⊢
  have hl : lv_has ls 3 [(0, .ref (ad 86)), (1, .int p0), (2, .int p1)] := hl
  clear hE
  unfold f_X11_parts at hf
  suffices hgo : ∀ (H : Heap) (locs : List Loc), va_P D vwCl (wd N ad C) H → va_S (An s.heap.size) s.heap H locs → W p l e (headSpec wsX11_parts rmX11_parts).room s m args below meth c H locs 0 0 QQ (F0 m 0 ls []) from hgo s.heap [] hP hS
  clear hS hP
  intro H locs hP hS
  refine lv_aload_n hx hb dX11_parts_0 rfl (lv_at hl 0 rfl) ?_
  refine r_get (own := RX11) (T := TX11) (n := 32) (ci := 11) (v := .int m_there) hx hb hts nX11 hown hK hP (by omega) h86 rfl 4 (by decide) k0 rfl dX11_parts_1 ?_
  refine lv_iload_n hx hb dX11_parts_4 rfl (lv_at hl 1 rfl) ?_
  obtain ⟨q1, hq1, hf⟩ := bd_e hf
  refine k_iR (va_runS (As := [.int m_there, .int p0]) (rest := []) ⟨hx, hb, hml, hown, hts⟩ (c_X11_has (l := l) (sz := H.size) (p0 := m_there) (p1 := p0) hq1) (va_cwS 2 hts gX11_parts_X11_has rfl rfl rfl (by decide +kernel) ⟨Nat.le_of_ble_eq_true rfl, Nat.le_of_ble_eq_true rfl⟩) preS0 rfl rfl hl.1 rfl (lv_room (Nat.le_of_ble_eq_true rfl)) dX11_parts_5 ⟨Nat.le_of_ble_eq_true rfl, Nat.le_of_ble_eq_true rfl⟩) hA hP hS (fun H locs hP hS hbz_q1 => ?_)
  refine lv_if_eq (tgt := 39) hx hb dX11_parts_8 (by decide) (fun c2 => ?_) (fun c2 => ?_)
  · have hf := it_e c2 hf
    refine lv_iconst (v := 0) hx hb dX11_parts_39 (by decide) ?_
    obtain rfl := Option.some.inj hf
    rw [← hQ]
    exact e_zR hx hb hr rfl bz0 hS hlocks dX11_parts_40
  · have hf := ie_e c2 hf
    refine lv_iload_n hx hb dX11_parts_11 rfl (lv_at hl 2 rfl) ?_
    refine lv_aload_n hx hb dX11_parts_12 rfl (lv_at hl 0 rfl) ?_
    refine r_get (own := RX11) (T := TX11) (n := 32) (ci := 11) (v := .ref (ad 103)) hx hb hts nX11 hown hK hP (by omega) h86 rfl 25 (by decide) k2 rfl dX11_parts_13 ?_
    refine lv_iload_n hx hb dX11_parts_16 rfl (lv_at hl 1 rfl) ?_
    obtain ⟨i4, x3, ex3, hf⟩ := ri_e hf
    refine r_iald hx hb hK hP (by omega) h103 i4 dX11_parts_17 ex3 ?_
    refine lv_iand hx hb dX11_parts_18 ?_
    refine lv_if_eq (tgt := 39) hx hb dX11_parts_19 (by decide) (fun c5 => ?_) (fun c5 => ?_)
    · have hf := it_e c5 hf
      refine lv_iconst (v := 0) hx hb dX11_parts_39 (by decide) ?_
      obtain rfl := Option.some.inj hf
      rw [← hQ]
      exact e_zR hx hb hr rfl bz0 hS hlocks dX11_parts_40
    · have hf := ie_e c5 hf
      refine lv_iload_n hx hb dX11_parts_22 rfl (lv_at hl 2 rfl) ?_
      refine lv_aload_n hx hb dX11_parts_23 rfl (lv_at hl 0 rfl) ?_
      refine r_get (own := RX11) (T := TX11) (n := 32) (ci := 11) (v := .ref (ad 103)) hx hb hts nX11 hown hK hP (by omega) h86 rfl 25 (by decide) k2 rfl dX11_parts_24 ?_
      refine lv_iload_n hx hb dX11_parts_27 rfl (lv_at hl 1 rfl) ?_
      obtain ⟨i7, x6, ex6, hf⟩ := ri_e hf
      refine r_iald hx hb hK hP (by omega) h103 i7 dX11_parts_28 ex6 ?_
      refine lv_iconst (v := (-1)) hx hb dX11_parts_29 (by decide) ?_
      refine lv_ixor hx hb dX11_parts_30 ?_
      refine lv_iand hx hb dX11_parts_31 ?_
      refine lv_if_eq (tgt := 39) hx hb dX11_parts_32 (by decide) (fun c8 => ?_) (fun c8 => ?_)
      · have hf := it_e c8 hf
        refine lv_iconst (v := 0) hx hb dX11_parts_39 (by decide) ?_
        obtain rfl := Option.some.inj hf
        rw [← hQ]
        exact e_zR hx hb hr rfl bz0 hS hlocks dX11_parts_40
      · have hf := ie_e c8 hf
        refine lv_iconst (v := 1) hx hb dX11_parts_35 (by decide) ?_
        refine lv_goto (tgt := 40) hx hb dX11_parts_36 (by decide) ?_
        obtain rfl := Option.some.inj hf
        rw [← hQ]
        exact e_zR hx hb hr rfl bz1 hS hlocks dX11_parts_40

def f_X11_greater (p0 : Int32) (p1 : Int32) : Option (Int32) :=
  if p0 ≤ p1 then
    some (p1)
  else
    some (p0)
abbrev rmX11_greater : Room := { frames := 0, cells := 0, slots := 0, locals := 0 }
set_option maxHeartbeats 4000000 in
set_option maxRecDepth 100000 in
theorem c_X11_greater {l : Launch} {sz : Nat}  {p0 : Int32} {p1 : Int32} {rr : Int32} (hf : f_X11_greater p0 p1 = some rr) : Met l yX11_greater wsX11_greater rmX11_greater (PcS sz [.int p0, .int p1]) (QiR sz tP rr) 0 0 (An sz) := by
  refine Met.ofW (cc := cX11_greater) (maxL := 2) (ret := (some .int)) (by decide) rfl ?_
  intro p e s m args below meth c s₁ B hml hv
  obtain ⟨hav, hsz⟩ := hv
  subst hsz
  have hx := B.exec
  have hb := B.bytes
  have hr := B.returns
  have hts := atoms_spec (ws := wsX11_greater) B.pre
  have hown : s.vm.findClass RX11 = some m.cls := findClass_of_methodNamed B.named
  have hlocks := B.notSynchronized
  generalize hQ : MQ below (QiR s.heap.size tP rr) args s 0 0 (An s.heap.size) = QQ
  have hS : va_S (An s.heap.size) s.heap s.heap [] := va_S.rf
  have hA : ∀ q, s.heap.size ≤ q → (An s.heap.size) q := fun q h => h
  have hE := lg_entry_eq m [.int p0, .int p1] 2
  rw [← hav] at hE
  rw [hE]
  have hl := lv_entry [.int p0, .int p1] (n := 2) (Nat.le_of_ble_eq_true rfl)
  generalize (lg_sl [.int p0, .int p1] ++ List.replicate (2 - (lg_sl [.int p0, .int p1]).length) Slot.unset).toArray = ls at hl ⊢
  have hl : lv_has ls 2 [(0, .int p0), (1, .int p1)] := hl
  clear hE
  unfold f_X11_greater at hf
  suffices hgo : ∀ (H : Heap) (locs : List Loc), va_S (An s.heap.size) s.heap H locs → W p l e (headSpec wsX11_greater rmX11_greater).room s m args below meth c H locs 0 0 QQ (F0 m 0 ls []) from hgo s.heap [] hS
  clear hS
  intro H locs hS
  refine lv_iload_n hx hb dX11_greater_0 rfl (lv_at hl 0 rfl) ?_
  refine lv_iload_n hx hb dX11_greater_1 rfl (lv_at hl 1 rfl) ?_
  refine lv_icmp_le (tgt := 9) hx hb dX11_greater_2 (by decide) (fun c1 => ?_) (fun c1 => ?_)
  · have hf := it_e c1 hf
    refine lv_iload_n hx hb dX11_greater_9 rfl (lv_at hl 1 rfl) ?_
    obtain rfl := Option.some.inj hf
    rw [← hQ]
    exact e_iR hx hb hr rfl (tP_i _) hS hlocks dX11_greater_10
  · have hf := ie_e c1 hf
    refine lv_iload_n hx hb dX11_greater_5 rfl (lv_at hl 0 rfl) ?_
    refine lv_goto (tgt := 10) hx hb dX11_greater_6 (by decide) ?_
    obtain rfl := Option.some.inj hf
    rw [← hQ]
    exact e_iR hx hb hr rfl (tP_i _) hS hlocks dX11_greater_10

def f_X11_fewBy (p0 : Int32) (p1 : Int32) (m_abv : Nat → Int32) (m_few : Nat → Int32) : Option (Int32) :=
  ri m_abv 12 (p0) fun x1 =>
  ri m_few 4096 ((p1 &&& x1)) fun x3 =>
  ri m_abv 12 (p0) fun x5 =>
  ri m_few 4096 ((p1 &&& (x5 ^^^ (-1)))) fun x7 =>
  (f_X11_greater x3 x7).bind fun q9 =>
  some ((1 + q9))
abbrev rmX11_fewBy : Room := { frames := 1, cells := 0, slots := 0, locals := 21 }
set_option maxHeartbeats 4000000 in
set_option maxRecDepth 100000 in
theorem c_X11_fewBy {l : Launch} {D : va_G} {g : Nat → ClassId} {N : Nat} {ad : Nat → Nat} {C : Nat → va_E} {sz : Nat} {m_len : Int32} {m_rm : Int32} {m_there : Int32} {m_lift : Int32} {m_blank : Int32} {m_fm : Int32} {m_at : Int32} {m_pl : Int32} {m_end : Int32} {m_seed : Int32} {m_abv : Nat → Int32} {m_few : Nat → Int32} {p0 : Int32} {p1 : Int32} {rr : Int32} (hN : 109 ≤ N) (h86 : C 86 = .inr (11, [.ref (ad 87), .int m_len, .ref (ad 88), .int m_rm, .int m_there, .ref (ad 89), .ref (ad 90), .ref (ad 91), .ref (ad 92), .ref (ad 93), .ref (ad 94), .ref (ad 95), .ref (ad 96), .ref (ad 97), .ref (ad 98), .ref (ad 99), .ref (ad 100), .ref (ad 101), .int m_lift, .int m_blank, .ref (ad 102), .int m_fm, .int m_at, .int m_pl, .int m_end, .ref (ad 103), .ref (ad 104), .ref (ad 105), .ref (ad 106), .ref (ad 107), .ref (ad 108), .int m_seed])) (h103 : C 103 = aI g 12 m_abv) (h105 : C 105 = aI g 4096 m_few) (hf : f_X11_fewBy p0 p1 m_abv m_few = some rr) : Met l yX11_fewBy wsX11_fewBy rmX11_fewBy (PcW D g N ad C sz [.ref (ad 86), .int p0, .int p1]) (QiR sz tP rr) 0 0 (An sz) := by
  refine Met.ofW (cc := cX11_fewBy) (maxL := 3) (ret := (some .int)) (by decide) rfl ?_
  intro p e s m args below meth c s₁ B hml hv
  obtain ⟨hav, hsz, hK, hP⟩ := hv
  subst hsz
  have hx := B.exec
  have hb := B.bytes
  have hr := B.returns
  have hts := atoms_spec (ws := wsX11_fewBy) B.pre
  have hown : s.vm.findClass RX11 = some m.cls := findClass_of_methodNamed B.named
  have hlocks := B.notSynchronized
  generalize hQ : MQ below (QiR s.heap.size tP rr) args s 0 0 (An s.heap.size) = QQ
  have hS : va_S (An s.heap.size) s.heap s.heap [] := va_S.rf
  have hA : ∀ q, s.heap.size ≤ q → (An s.heap.size) q := fun q h => h
  have k0 := hts (.fieldLink RX11 68 "UpDrainModel" "few" "[I") (List.mem_of_getElem? (i := 1) rfl)
  have nX11 : ∀ w ∈ u_ws RX11 TX11 32, w ∈ wsX11_fewBy := fun _ h => List.mem_cons_of_mem _ (List.mem_append_right _ h)
  have k2 := hts (.fieldLink RX11 62 "UpDrainModel" "aboves" "[I") (List.mem_of_getElem? (i := 2) rfl)
  have hE := lg_entry_eq m [.ref (ad 86), .int p0, .int p1] 3
  rw [← hav] at hE
  rw [hE]
  have hl := lv_entry [.ref (ad 86), .int p0, .int p1] (n := 3) (Nat.le_of_ble_eq_true rfl)
  generalize (lg_sl [.ref (ad 86), .int p0, .int p1] ++ List.replicate (3 - (lg_sl [.ref (ad 86), .int p0, .int p1]).length) Slot.unset).toArray = ls at hl ⊢
  have hl : lv_has ls 3 [(0, .ref (ad 86)), (1, .int p0), (2, .int p1)] := hl
  clear hE
  unfold f_X11_fewBy at hf
  suffices hgo : ∀ (H : Heap) (locs : List Loc), va_P D vwCl (wd N ad C) H → va_S (An s.heap.size) s.heap H locs → W p l e (headSpec wsX11_fewBy rmX11_fewBy).room s m args below meth c H locs 0 0 QQ (F0 m 0 ls []) from hgo s.heap [] hP hS
  clear hS hP
  intro H locs hP hS
  refine lv_iconst (v := 1) hx hb dX11_fewBy_0 (by decide) ?_
  refine lv_aload_n hx hb dX11_fewBy_1 rfl (lv_at hl 0 rfl) ?_
  refine r_get (own := RX11) (T := TX11) (n := 32) (ci := 11) (v := .ref (ad 105)) hx hb hts nX11 hown hK hP (by omega) h86 rfl 27 (by decide) k0 rfl dX11_fewBy_2 ?_
  refine lv_iload_n hx hb dX11_fewBy_5 rfl (lv_at hl 2 rfl) ?_
  refine lv_aload_n hx hb dX11_fewBy_6 rfl (lv_at hl 0 rfl) ?_
  refine r_get (own := RX11) (T := TX11) (n := 32) (ci := 11) (v := .ref (ad 103)) hx hb hts nX11 hown hK hP (by omega) h86 rfl 25 (by decide) k2 rfl dX11_fewBy_7 ?_
  refine lv_iload_n hx hb dX11_fewBy_10 rfl (lv_at hl 1 rfl) ?_
  obtain ⟨i2, x1, ex1, hf⟩ := ri_e hf
  refine r_iald hx hb hK hP (by omega) h103 i2 dX11_fewBy_11 ex1 ?_
  refine lv_iand hx hb dX11_fewBy_12 ?_
  obtain ⟨i4, x3, ex3, hf⟩ := ri_e hf
  refine r_iald hx hb hK hP (by omega) h105 i4 dX11_fewBy_13 ex3 ?_
  refine lv_aload_n hx hb dX11_fewBy_14 rfl (lv_at hl 0 rfl) ?_
  refine r_get (own := RX11) (T := TX11) (n := 32) (ci := 11) (v := .ref (ad 105)) hx hb hts nX11 hown hK hP (by omega) h86 rfl 27 (by decide) k0 rfl dX11_fewBy_15 ?_
  refine lv_iload_n hx hb dX11_fewBy_18 rfl (lv_at hl 2 rfl) ?_
  refine lv_aload_n hx hb dX11_fewBy_19 rfl (lv_at hl 0 rfl) ?_
  refine r_get (own := RX11) (T := TX11) (n := 32) (ci := 11) (v := .ref (ad 103)) hx hb hts nX11 hown hK hP (by omega) h86 rfl 25 (by decide) k2 rfl dX11_fewBy_20 ?_
  refine lv_iload_n hx hb dX11_fewBy_23 rfl (lv_at hl 1 rfl) ?_
  obtain ⟨i6, x5, ex5, hf⟩ := ri_e hf
  refine r_iald hx hb hK hP (by omega) h103 i6 dX11_fewBy_24 ex5 ?_
  refine lv_iconst (v := (-1)) hx hb dX11_fewBy_25 (by decide) ?_
  refine lv_ixor hx hb dX11_fewBy_26 ?_
  refine lv_iand hx hb dX11_fewBy_27 ?_
  obtain ⟨i8, x7, ex7, hf⟩ := ri_e hf
  refine r_iald hx hb hK hP (by omega) h105 i8 dX11_fewBy_28 ex7 ?_
  obtain ⟨q9, hq9, hf⟩ := bd_e hf
  refine k_iR (va_runS (As := [.int x3, .int x7]) (rest := [.int 1]) ⟨hx, hb, hml, hown, hts⟩ (c_X11_greater (l := l) (sz := H.size) (p0 := x3) (p1 := x7) hq9) (va_cwS 2 hts gX11_fewBy_X11_greater rfl rfl rfl (by decide +kernel) ⟨Nat.le_of_ble_eq_true rfl, Nat.le_of_ble_eq_true rfl⟩) preS0 rfl rfl hl.1 rfl (lv_room (Nat.le_of_ble_eq_true rfl)) dX11_fewBy_29 ⟨Nat.le_of_ble_eq_true rfl, Nat.le_of_ble_eq_true rfl⟩) hA hP hS (fun H locs hP hS hbz_q9 => ?_)
  refine lv_iadd hx hb dX11_fewBy_32 ?_
  obtain rfl := Option.some.inj hf
  rw [← hQ]
  exact e_iR hx hb hr rfl (tP_i _) hS hlocks dX11_fewBy_33

def LX11_layFew_36 (p0 : Int32) (m_there : Int32) (q1 : (Nat → Int32) × (Nat → Int32)) (x2 : Int32) (ko : Int32 → (Nat → Int32) → Option ((Nat → Int32) × (Nat → Int32) × (Nat → Int32))) : Nat → Int32 → (Nat → Int32) → Option ((Nat → Int32) × (Nat → Int32) × (Nat → Int32))
  | 0, _, _ => none
  | n + 1, x11, f12 =>
    if 12 ≤ x11 then
      ko x11 f12
    else
      (f_X11_many x2).bind fun q16 =>
      if q16 ≤ 1 then
        ko x11 f12
      else
        if (x2 &&& (p0 ^^^ (-1))) = 0 then
          (f_X11_parts x11 x2 q1.1 m_there).bind fun q19 =>
          (if q19 = 0 then
            some (f12)
          else
            (f_X11_fewBy x11 x2 q1.1 f12).bind fun q23 =>
            ri f12 4096 (x2) fun x24 =>
            (if x24 ≤ q23 then
              ri f12 4096 (x2) fun x30 =>
              some (x30)
            else
              (f_X11_fewBy x11 x2 q1.1 f12).bind fun q32 =>
              some (q32) : Option (Int32)).bind fun q26 =>
            wi f12 4096 (x2) (q26) fun f27 =>
            some (f27) : Option ((Nat → Int32))).bind fun q20 =>
          lt (x11 + 1 : Int32) fun x21 =>
          LX11_layFew_36 p0 m_there q1 x2 ko n x21 q20
        else
          ko x11 f12
theorem LX11_layFew_36_z (p0 : Int32) (m_there : Int32) (q1 : (Nat → Int32) × (Nat → Int32)) (x2 : Int32) (ko : Int32 → (Nat → Int32) → Option ((Nat → Int32) × (Nat → Int32) × (Nat → Int32))) (x11 : Int32) (f12 : Nat → Int32) : LX11_layFew_36 p0 m_there q1 x2 ko 0 x11 f12 = none := rfl
theorem LX11_layFew_36_s (p0 : Int32) (m_there : Int32) (q1 : (Nat → Int32) × (Nat → Int32)) (x2 : Int32) (ko : Int32 → (Nat → Int32) → Option ((Nat → Int32) × (Nat → Int32) × (Nat → Int32))) (n : Nat) (x11 : Int32) (f12 : Nat → Int32) : LX11_layFew_36 p0 m_there q1 x2 ko (n + 1) x11 f12 =
    if 12 ≤ x11 then
      ko x11 f12
    else
      (f_X11_many x2).bind fun q16 =>
      if q16 ≤ 1 then
        ko x11 f12
      else
        if (x2 &&& (p0 ^^^ (-1))) = 0 then
          (f_X11_parts x11 x2 q1.1 m_there).bind fun q19 =>
          (if q19 = 0 then
            some (f12)
          else
            (f_X11_fewBy x11 x2 q1.1 f12).bind fun q23 =>
            ri f12 4096 (x2) fun x24 =>
            (if x24 ≤ q23 then
              ri f12 4096 (x2) fun x30 =>
              some (x30)
            else
              (f_X11_fewBy x11 x2 q1.1 f12).bind fun q32 =>
              some (q32) : Option (Int32)).bind fun q26 =>
            wi f12 4096 (x2) (q26) fun f27 =>
            some (f27) : Option ((Nat → Int32))).bind fun q20 =>
          lt (x11 + 1 : Int32) fun x21 =>
          LX11_layFew_36 p0 m_there q1 x2 ko n x21 q20
        else
          ko x11 f12 := rfl
def LX11_layFew_6 (p0 : Int32) (m_there : Int32) (q1 : (Nat → Int32) × (Nat → Int32)) (ko : Int32 → (Nat → Int32) → Option ((Nat → Int32) × (Nat → Int32) × (Nat → Int32))) : Nat → Int32 → (Nat → Int32) → Option ((Nat → Int32) × (Nat → Int32) × (Nat → Int32))
  | 0, _, _ => none
  | n + 1, x2, f3 =>
    if 4096 ≤ x2 then
      ko x2 f3
    else
      (f_X11_many x2).bind fun q7 =>
      (if 2 ≤ q7 then
        some (268435456)
      else
        some (0) : Option (Int32)).bind fun q8 =>
      wi f3 4096 (x2) (q8) fun f9 =>
      LX11_layFew_36 p0 m_there q1 x2 (fun x13 f14 =>
        lt (x2 + 1 : Int32) fun x33 =>
        LX11_layFew_6 p0 m_there q1 ko n x33 f14) FU 0 f9
theorem LX11_layFew_6_z (p0 : Int32) (m_there : Int32) (q1 : (Nat → Int32) × (Nat → Int32)) (ko : Int32 → (Nat → Int32) → Option ((Nat → Int32) × (Nat → Int32) × (Nat → Int32))) (x2 : Int32) (f3 : Nat → Int32) : LX11_layFew_6 p0 m_there q1 ko 0 x2 f3 = none := rfl
theorem LX11_layFew_6_s (p0 : Int32) (m_there : Int32) (q1 : (Nat → Int32) × (Nat → Int32)) (ko : Int32 → (Nat → Int32) → Option ((Nat → Int32) × (Nat → Int32) × (Nat → Int32))) (n : Nat) (x2 : Int32) (f3 : Nat → Int32) : LX11_layFew_6 p0 m_there q1 ko (n + 1) x2 f3 =
    if 4096 ≤ x2 then
      ko x2 f3
    else
      (f_X11_many x2).bind fun q7 =>
      (if 2 ≤ q7 then
        some (268435456)
      else
        some (0) : Option (Int32)).bind fun q8 =>
      wi f3 4096 (x2) (q8) fun f9 =>
      LX11_layFew_36 p0 m_there q1 x2 (fun x13 f14 =>
        lt (x2 + 1 : Int32) fun x33 =>
        LX11_layFew_6 p0 m_there q1 ko n x33 f14) FU 0 f9 := rfl
def f_X11_layFew (p0 : Int32) (m_down : Nat → Int32) (m_walk : Nat → Int32) (m_abv : Nat → Int32) (m_apart : Nat → Int32) (m_few : Nat → Int32) (m_there : Int32) : Option ((Nat → Int32) × (Nat → Int32) × (Nat → Int32)) :=
  (f_X11_layWays m_down m_walk m_abv m_apart m_there).bind fun q1 =>
  LX11_layFew_6 p0 m_there q1 (fun x4 f5 =>
    some (q1.1, q1.2, f5)) FU 0 m_few
abbrev rmX11_layFew : Room := { frames := 3, cells := 0, slots := 0, locals := 70 }
set_option maxHeartbeats 4000000 in
set_option maxRecDepth 100000 in
theorem c_X11_layFew {l : Launch} {D : va_G} {g : Nat → ClassId} {N : Nat} {ad : Nat → Nat} {C : Nat → va_E} {sz : Nat} {m_len : Int32} {m_rm : Int32} {m_there : Int32} {m_lift : Int32} {m_blank : Int32} {m_fm : Int32} {m_at : Int32} {m_pl : Int32} {m_end : Int32} {m_seed : Int32} {m_down : Nat → Int32} {m_walk : Nat → Int32} {m_abv : Nat → Int32} {m_apart : Nat → Int32} {m_few : Nat → Int32} {p0 : Int32} {rr : (Nat → Int32) × (Nat → Int32) × (Nat → Int32)} (hN : 109 ≤ N) (hI : Inj N ad) (h86 : C 86 = .inr (11, [.ref (ad 87), .int m_len, .ref (ad 88), .int m_rm, .int m_there, .ref (ad 89), .ref (ad 90), .ref (ad 91), .ref (ad 92), .ref (ad 93), .ref (ad 94), .ref (ad 95), .ref (ad 96), .ref (ad 97), .ref (ad 98), .ref (ad 99), .ref (ad 100), .ref (ad 101), .int m_lift, .int m_blank, .ref (ad 102), .int m_fm, .int m_at, .int m_pl, .int m_end, .ref (ad 103), .ref (ad 104), .ref (ad 105), .ref (ad 106), .ref (ad 107), .ref (ad 108), .int m_seed])) (h89 : C 89 = aI g 12 m_down) (h91 : C 91 = aI g 12 m_walk) (h103 : C 103 = aI g 12 m_abv) (h104 : C 104 = aI g 144 m_apart) (h105 : C 105 = aI g 4096 m_few) (hf : f_X11_layFew p0 m_down m_walk m_abv m_apart m_few m_there = some rr) : Met l yX11_layFew wsX11_layFew rmX11_layFew (PcW D g N ad C sz [.ref (ad 86), .int p0]) (QvW D N ad sz (fun C' => (∀ i : Nat, i ≠ 103 ∧ i ≠ 104 ∧ i ≠ 105 → C' i = C i) ∧ (C' 103 = aI g 12 rr.1) ∧ (C' 104 = aI g 144 rr.2.1) ∧ (C' 105 = aI g 4096 rr.2.2))) 0 0 (Aw N ad sz) := by
  refine Met.ofW (cc := cX11_layFew) (maxL := 4) (ret := none) (by decide) rfl ?_
  intro p e s m args below meth c s₁ B hml hv
  obtain ⟨hav, hsz, hK, hP⟩ := hv
  subst hsz
  have hx := B.exec
  have hb := B.bytes
  have hr := B.returns
  have hts := atoms_spec (ws := wsX11_layFew) B.pre
  have hown : s.vm.findClass RX11 = some m.cls := findClass_of_methodNamed B.named
  have hlocks := B.notSynchronized
  generalize hQ : MQ below (QvW D N ad s.heap.size (fun C' => (∀ i : Nat, i ≠ 103 ∧ i ≠ 104 ∧ i ≠ 105 → C' i = C i) ∧ (C' 103 = aI g 12 rr.1) ∧ (C' 104 = aI g 144 rr.2.1) ∧ (C' 105 = aI g 4096 rr.2.2))) args s 0 0 (Aw N ad s.heap.size) = QQ
  have hS : va_S (Aw N ad s.heap.size) s.heap s.heap [] := va_S.rf
  have hA : ∀ q, s.heap.size ≤ q → (Aw N ad s.heap.size) q := fun q h => Or.inr h
  have hAd : ∀ j : Nat, j < N → (Aw N ad s.heap.size) (ad j) := fun j h => Or.inl ⟨j, h, rfl⟩
  obtain ⟨C0, hC0⟩ : ∃ C0 : Nat → va_E, C0 = C := ⟨_, rfl⟩
  have hag : ∀ i : Nat, i ≠ 103 ∧ i ≠ 104 ∧ i ≠ 105 → C i = C0 i := fun i _ => by rw [hC0]
  rw [← hC0] at hQ
  have k0 := hts (.fieldLink RX11 68 "UpDrainModel" "few" "[I") (List.mem_of_getElem? (i := 1) rfl)
  have nX11 : ∀ w ∈ u_ws RX11 TX11 32, w ∈ wsX11_layFew := fun _ h => List.mem_cons_of_mem _ (List.mem_append_right _ h)
  have k2 := hts (.constant RX11 263 (268435456)) (List.mem_of_getElem? (i := 2) rfl)
  have hE := lg_entry_eq m [.ref (ad 86), .int p0] 4
  rw [← hav] at hE
  rw [hE]
  have hl := lv_entry [.ref (ad 86), .int p0] (n := 4) (Nat.le_of_ble_eq_true rfl)
  generalize (lg_sl [.ref (ad 86), .int p0] ++ List.replicate (4 - (lg_sl [.ref (ad 86), .int p0]).length) Slot.unset).toArray = ls at hl ⊢
  have hl : lv_has ls 4 [(0, .ref (ad 86)), (1, .int p0)] := hl
  clear hE
  unfold f_X11_layFew at hf
  suffices hgo : ∀ (H : Heap) (locs : List Loc), va_P D vwCl (wd N ad C) H → va_S (Aw N ad s.heap.size) s.heap H locs → W p l e (headSpec wsX11_layFew rmX11_layFew).room s m args below meth c H locs 0 0 QQ (F0 m 0 ls []) from hgo s.heap [] hP hS
  clear hS hP
  intro H locs hP hS
  refine lv_aload_n hx hb dX11_layFew_0 rfl (lv_at hl 0 rfl) ?_
  obtain ⟨q1, hq1, hf⟩ := bd_e hf
  refine k_vW (va_runV (C := RX11) (As := []) (rest := []) ⟨hx, hb, hml, hown, hts⟩ (c_X11_layWays (l := l) (sz := H.size)  hN hI h86 h89 h91 h103 h104 hq1) (cwV 0 hts gX11_layFew_X11_layWays rfl rfl rfl (by decide +kernel) ⟨Nat.le_of_ble_eq_true rfl, Nat.le_of_ble_eq_true rfl⟩) (preV_of hK hP (by omega) h86 rfl) rfl rfl hl.1 rfl (lv_room (Nat.le_of_ble_eq_true rfl)) dX11_layFew_1 ⟨Nat.le_of_ble_eq_true rfl, Nat.le_of_ble_eq_true rfl⟩) hA hAd hS (fun C H locs hP hS hpo => ?_)
  obtain ⟨he, h103, h104⟩ := hpo
  have hag : ∀ i : Nat, i ≠ 103 ∧ i ≠ 104 ∧ i ≠ 105 → C i = C0 i := fun i h => (he i (by omega)).trans (hag i h)
  have h86 := (he 86 (by decide)).trans h86
  have h89 := (he 89 (by decide)).trans h89
  have h91 := (he 91 (by decide)).trans h91
  have h105 := (he 105 (by decide)).trans h105
  refine lv_iconst (v := 0) hx hb dX11_layFew_4 (by decide) ?_
  refine lv_istore_n (lv' := [(2, .int 0), (0, .ref (ad 86)), (1, .int p0)]) hx hb dX11_layFew_5 rfl hl (by decide) rfl (fun ls hl => ?_)
  have key6 : ∀ (ko : Int32 → (Nat → Int32) → Option ((Nat → Int32) × (Nat → Int32) × (Nat → Int32))), (∀ (x4 : Int32) (f5 : Nat → Int32) (C : Nat → va_E) (H : Heap) (locs : List Loc) (ls : Array Slot), va_P D vwCl (wd N ad C) H → va_S (Aw N ad s.heap.size) s.heap H locs → (∀ i : Nat, i ≠ 103 ∧ i ≠ 104 ∧ i ≠ 105 → C i = C0 i) → C 86 = .inr (11, [.ref (ad 87), .int m_len, .ref (ad 88), .int m_rm, .int m_there, .ref (ad 89), .ref (ad 90), .ref (ad 91), .ref (ad 92), .ref (ad 93), .ref (ad 94), .ref (ad 95), .ref (ad 96), .ref (ad 97), .ref (ad 98), .ref (ad 99), .ref (ad 100), .ref (ad 101), .int m_lift, .int m_blank, .ref (ad 102), .int m_fm, .int m_at, .int m_pl, .int m_end, .ref (ad 103), .ref (ad 104), .ref (ad 105), .ref (ad 106), .ref (ad 107), .ref (ad 108), .int m_seed]) → C 89 = aI g 12 m_down → C 91 = aI g 12 m_walk → C 103 = aI g 12 q1.1 → C 104 = aI g 144 q1.2 → C 105 = aI g 4096 f5 → lv_has ls 4 [(0, .ref (ad 86)), (1, .int p0), (2, .int x4)] → ko x4 f5 = some rr → W p l e (headSpec wsX11_layFew rmX11_layFew).room s m args below meth c H locs 0 0 QQ (F0 m 115 ls [])) → ∀ (n : Nat) (x2 : Int32) (f3 : Nat → Int32) (C : Nat → va_E) (H : Heap) (locs : List Loc) (ls : Array Slot), va_P D vwCl (wd N ad C) H → va_S (Aw N ad s.heap.size) s.heap H locs → (∀ i : Nat, i ≠ 103 ∧ i ≠ 104 ∧ i ≠ 105 → C i = C0 i) → C 86 = .inr (11, [.ref (ad 87), .int m_len, .ref (ad 88), .int m_rm, .int m_there, .ref (ad 89), .ref (ad 90), .ref (ad 91), .ref (ad 92), .ref (ad 93), .ref (ad 94), .ref (ad 95), .ref (ad 96), .ref (ad 97), .ref (ad 98), .ref (ad 99), .ref (ad 100), .ref (ad 101), .int m_lift, .int m_blank, .ref (ad 102), .int m_fm, .int m_at, .int m_pl, .int m_end, .ref (ad 103), .ref (ad 104), .ref (ad 105), .ref (ad 106), .ref (ad 107), .ref (ad 108), .int m_seed]) → C 89 = aI g 12 m_down → C 91 = aI g 12 m_walk → C 103 = aI g 12 q1.1 → C 104 = aI g 144 q1.2 → C 105 = aI g 4096 f3 → lv_has ls 4 [(0, .ref (ad 86)), (1, .int p0), (2, .int x2)] → LX11_layFew_6 p0 m_there q1 ko n x2 f3 = some rr → W p l e (headSpec wsX11_layFew rmX11_layFew).room s m args below meth c H locs 0 0 QQ (F0 m 6 ls []) := by
    intro ko hko n
    induction n with
    | zero =>
      intro x2 f3 C H locs ls hP hS hag h86 h89 h91 h103 h104 h105 hl hf
      rw [LX11_layFew_6_z] at hf
      cases hf
    | succ n ih =>
      intro x2 f3 C H locs ls hP hS hag h86 h89 h91 h103 h104 h105 hl hf
      rw [LX11_layFew_6_s] at hf
      refine lv_iload_n hx hb dX11_layFew_6 rfl (lv_at hl 2 rfl) ?_
      refine lv_sipush (v := 4096) hx hb dX11_layFew_7 (by decide) ?_
      refine lv_icmp_ge (tgt := 115) hx hb dX11_layFew_10 (by decide) (fun c6 => ?_) (fun c6 => ?_)
      · have hf := it_e c6 hf
        exact hko x2 f3 C H locs ls hP hS hag h86 h89 h91 h103 h104 h105 (lv_sub hl [0, 1, 2] rfl) hf
      · have hf := ie_e c6 hf
        refine lv_aload_n hx hb dX11_layFew_13 rfl (lv_at hl 0 rfl) ?_
        refine r_get (own := RX11) (T := TX11) (n := 32) (ci := 11) (v := .ref (ad 105)) hx hb hts nX11 hown hK hP (by omega) h86 rfl 27 (by decide) k0 rfl dX11_layFew_14 ?_
        refine lv_iload_n hx hb dX11_layFew_17 rfl (lv_at hl 2 rfl) ?_
        refine lv_iload_n hx hb dX11_layFew_18 rfl (lv_at hl 2 rfl) ?_
        obtain ⟨q7, hq7, hf⟩ := bd_e hf
        refine k_iR (va_runS (As := [.int x2]) (rest := [.int x2, .ref (ad 105)]) ⟨hx, hb, hml, hown, hts⟩ (c_X11_many (l := l) (sz := H.size) (p0 := x2) hq7) (va_cwS 1 hts gX11_layFew_X11_many rfl rfl rfl (by decide +kernel) ⟨Nat.le_of_ble_eq_true rfl, Nat.le_of_ble_eq_true rfl⟩) preS0 rfl rfl hl.1 rfl (lv_room (Nat.le_of_ble_eq_true rfl)) dX11_layFew_19 ⟨Nat.le_of_ble_eq_true rfl, Nat.le_of_ble_eq_true rfl⟩) hA hP hS (fun H locs hP hS hbz_q7 => ?_)
        refine lv_iconst (v := 2) hx hb dX11_layFew_22 (by decide) ?_
        obtain ⟨q8, htq8, hf⟩ := bd_e hf
        have jnq8 : ∀ (C : Nat → va_E) (H : Heap) (locs : List Loc) (ls : Array Slot), va_P D vwCl (wd N ad C) H → va_S (Aw N ad s.heap.size) s.heap H locs → (∀ i : Nat, i ≠ 103 ∧ i ≠ 104 ∧ i ≠ 105 → C i = C0 i) → C 86 = .inr (11, [.ref (ad 87), .int m_len, .ref (ad 88), .int m_rm, .int m_there, .ref (ad 89), .ref (ad 90), .ref (ad 91), .ref (ad 92), .ref (ad 93), .ref (ad 94), .ref (ad 95), .ref (ad 96), .ref (ad 97), .ref (ad 98), .ref (ad 99), .ref (ad 100), .ref (ad 101), .int m_lift, .int m_blank, .ref (ad 102), .int m_fm, .int m_at, .int m_pl, .int m_end, .ref (ad 103), .ref (ad 104), .ref (ad 105), .ref (ad 106), .ref (ad 107), .ref (ad 108), .int m_seed]) → C 89 = aI g 12 m_down → C 91 = aI g 12 m_walk → C 103 = aI g 12 q1.1 → C 104 = aI g 144 q1.2 → C 105 = aI g 4096 f3 → lv_has ls 4 [(0, .ref (ad 86)), (1, .int p0), (2, .int x2)] → W p l e (headSpec wsX11_layFew rmX11_layFew).room s m args below meth c H locs 0 0 QQ (F0 m 33 ls [.int q8, .int x2, .ref (ad 105)]) := by
          intro C H locs ls hP hS hag h86 h89 h91 h103 h104 h105 hl
          obtain ⟨i10, f9, ef9, hf⟩ := wi_e hf
          refine r_iast hx hb hK hI hAd hP hS (by omega) h105 i10 dX11_layFew_33 ef9 (fun C H locs hP hS he hn => ?_)
          have hag : ∀ i : Nat, i ≠ 103 ∧ i ≠ 104 ∧ i ≠ 105 → C i = C0 i := fun i h => (he i (by omega)).trans (hag i h)
          have h86 := (he 86 (by decide)).trans h86
          have h89 := (he 89 (by decide)).trans h89
          have h91 := (he 91 (by decide)).trans h91
          have h103 := (he 103 (by decide)).trans h103
          have h104 := (he 104 (by decide)).trans h104
          have h105 : C 105 = aI g 4096 f9 := hn
          refine lv_iconst (v := 0) hx hb dX11_layFew_34 (by decide) ?_
          refine lv_istore_n (lv' := [(3, .int 0), (0, .ref (ad 86)), (1, .int p0), (2, .int x2)]) hx hb dX11_layFew_35 rfl hl (by decide) rfl (fun ls hl => ?_)
          have key36 : ∀ (ko : Int32 → (Nat → Int32) → Option ((Nat → Int32) × (Nat → Int32) × (Nat → Int32))), (∀ (x13 : Int32) (f14 : Nat → Int32) (C : Nat → va_E) (H : Heap) (locs : List Loc) (ls : Array Slot), va_P D vwCl (wd N ad C) H → va_S (Aw N ad s.heap.size) s.heap H locs → (∀ i : Nat, i ≠ 103 ∧ i ≠ 104 ∧ i ≠ 105 → C i = C0 i) → C 86 = .inr (11, [.ref (ad 87), .int m_len, .ref (ad 88), .int m_rm, .int m_there, .ref (ad 89), .ref (ad 90), .ref (ad 91), .ref (ad 92), .ref (ad 93), .ref (ad 94), .ref (ad 95), .ref (ad 96), .ref (ad 97), .ref (ad 98), .ref (ad 99), .ref (ad 100), .ref (ad 101), .int m_lift, .int m_blank, .ref (ad 102), .int m_fm, .int m_at, .int m_pl, .int m_end, .ref (ad 103), .ref (ad 104), .ref (ad 105), .ref (ad 106), .ref (ad 107), .ref (ad 108), .int m_seed]) → C 89 = aI g 12 m_down → C 91 = aI g 12 m_walk → C 103 = aI g 12 q1.1 → C 104 = aI g 144 q1.2 → C 105 = aI g 4096 f14 → lv_has ls 4 [(0, .ref (ad 86)), (1, .int p0), (2, .int x2), (3, .int x13)] → ko x13 f14 = some rr → W p l e (headSpec wsX11_layFew rmX11_layFew).room s m args below meth c H locs 0 0 QQ (F0 m 109 ls [])) → ∀ (n : Nat) (x11 : Int32) (f12 : Nat → Int32) (C : Nat → va_E) (H : Heap) (locs : List Loc) (ls : Array Slot), va_P D vwCl (wd N ad C) H → va_S (Aw N ad s.heap.size) s.heap H locs → (∀ i : Nat, i ≠ 103 ∧ i ≠ 104 ∧ i ≠ 105 → C i = C0 i) → C 86 = .inr (11, [.ref (ad 87), .int m_len, .ref (ad 88), .int m_rm, .int m_there, .ref (ad 89), .ref (ad 90), .ref (ad 91), .ref (ad 92), .ref (ad 93), .ref (ad 94), .ref (ad 95), .ref (ad 96), .ref (ad 97), .ref (ad 98), .ref (ad 99), .ref (ad 100), .ref (ad 101), .int m_lift, .int m_blank, .ref (ad 102), .int m_fm, .int m_at, .int m_pl, .int m_end, .ref (ad 103), .ref (ad 104), .ref (ad 105), .ref (ad 106), .ref (ad 107), .ref (ad 108), .int m_seed]) → C 89 = aI g 12 m_down → C 91 = aI g 12 m_walk → C 103 = aI g 12 q1.1 → C 104 = aI g 144 q1.2 → C 105 = aI g 4096 f12 → lv_has ls 4 [(0, .ref (ad 86)), (1, .int p0), (2, .int x2), (3, .int x11)] → LX11_layFew_36 p0 m_there q1 x2 ko n x11 f12 = some rr → W p l e (headSpec wsX11_layFew rmX11_layFew).room s m args below meth c H locs 0 0 QQ (F0 m 36 ls []) := by
            intro ko hko n
            induction n with
            | zero =>
              intro x11 f12 C H locs ls hP hS hag h86 h89 h91 h103 h104 h105 hl hf
              rw [LX11_layFew_36_z] at hf
              cases hf
            | succ n ih =>
              intro x11 f12 C H locs ls hP hS hag h86 h89 h91 h103 h104 h105 hl hf
              rw [LX11_layFew_36_s] at hf
              refine lv_iload_n hx hb dX11_layFew_36 rfl (lv_at hl 3 rfl) ?_
              refine lv_bipush (v := 12) hx hb dX11_layFew_37 (by decide) ?_
              refine lv_icmp_ge (tgt := 109) hx hb dX11_layFew_39 (by decide) (fun c15 => ?_) (fun c15 => ?_)
              · have hf := it_e c15 hf
                exact hko x11 f12 C H locs ls hP hS hag h86 h89 h91 h103 h104 h105 (lv_sub hl [0, 1, 2, 3] rfl) hf
              · have hf := ie_e c15 hf
                refine lv_iload_n hx hb dX11_layFew_42 rfl (lv_at hl 2 rfl) ?_
                obtain ⟨q16, hq16, hf⟩ := bd_e hf
                refine k_iR (va_runS (As := [.int x2]) (rest := []) ⟨hx, hb, hml, hown, hts⟩ (c_X11_many (l := l) (sz := H.size) (p0 := x2) hq16) (va_cwS 1 hts gX11_layFew_X11_many rfl rfl rfl (by decide +kernel) ⟨Nat.le_of_ble_eq_true rfl, Nat.le_of_ble_eq_true rfl⟩) preS0 rfl rfl hl.1 rfl (lv_room (Nat.le_of_ble_eq_true rfl)) dX11_layFew_43 ⟨Nat.le_of_ble_eq_true rfl, Nat.le_of_ble_eq_true rfl⟩) hA hP hS (fun H locs hP hS hbz_q16 => ?_)
                refine lv_iconst (v := 1) hx hb dX11_layFew_46 (by decide) ?_
                refine lv_icmp_le (tgt := 109) hx hb dX11_layFew_47 (by decide) (fun c17 => ?_) (fun c17 => ?_)
                · have hf := it_e c17 hf
                  exact hko x11 f12 C H locs ls hP hS hag h86 h89 h91 h103 h104 h105 (lv_sub hl [0, 1, 2, 3] rfl) hf
                · have hf := ie_e c17 hf
                  refine lv_iload_n hx hb dX11_layFew_50 rfl (lv_at hl 2 rfl) ?_
                  refine lv_iload_n hx hb dX11_layFew_51 rfl (lv_at hl 1 rfl) ?_
                  refine lv_iconst (v := (-1)) hx hb dX11_layFew_52 (by decide) ?_
                  refine lv_ixor hx hb dX11_layFew_53 ?_
                  refine lv_iand hx hb dX11_layFew_54 ?_
                  refine lv_if_ne (tgt := 109) hx hb dX11_layFew_55 (by decide) (fun c18 => ?_) (fun c18 => ?_)
                  · have hf := ie_e c18 hf
                    exact hko x11 f12 C H locs ls hP hS hag h86 h89 h91 h103 h104 h105 (lv_sub hl [0, 1, 2, 3] rfl) hf
                  · have hf := it_e c18 hf
                    refine lv_aload_n hx hb dX11_layFew_58 rfl (lv_at hl 0 rfl) ?_
                    refine lv_iload_n hx hb dX11_layFew_59 rfl (lv_at hl 3 rfl) ?_
                    refine lv_iload_n hx hb dX11_layFew_60 rfl (lv_at hl 2 rfl) ?_
                    obtain ⟨q19, hq19, hf⟩ := bd_e hf
                    refine k_iR (va_runV (C := RX11) (As := [.int x11, .int x2]) (rest := []) ⟨hx, hb, hml, hown, hts⟩ (c_X11_parts (l := l) (sz := H.size) (p0 := x11) (p1 := x2) hN h86 h103 hq19) (cwV 2 hts gX11_layFew_X11_parts rfl rfl rfl (by decide +kernel) ⟨Nat.le_of_ble_eq_true rfl, Nat.le_of_ble_eq_true rfl⟩) (preV_of hK hP (by omega) h86 rfl) rfl rfl hl.1 rfl (lv_room (Nat.le_of_ble_eq_true rfl)) dX11_layFew_61 ⟨Nat.le_of_ble_eq_true rfl, Nat.le_of_ble_eq_true rfl⟩) hA hP hS (fun H locs hP hS hbz_q19 => ?_)
                    obtain ⟨q20, htq20, hf⟩ := bd_e hf
                    have jnq20 : ∀ (C : Nat → va_E) (H : Heap) (locs : List Loc) (ls : Array Slot), va_P D vwCl (wd N ad C) H → va_S (Aw N ad s.heap.size) s.heap H locs → (∀ i : Nat, i ≠ 103 ∧ i ≠ 104 ∧ i ≠ 105 → C i = C0 i) → C 86 = .inr (11, [.ref (ad 87), .int m_len, .ref (ad 88), .int m_rm, .int m_there, .ref (ad 89), .ref (ad 90), .ref (ad 91), .ref (ad 92), .ref (ad 93), .ref (ad 94), .ref (ad 95), .ref (ad 96), .ref (ad 97), .ref (ad 98), .ref (ad 99), .ref (ad 100), .ref (ad 101), .int m_lift, .int m_blank, .ref (ad 102), .int m_fm, .int m_at, .int m_pl, .int m_end, .ref (ad 103), .ref (ad 104), .ref (ad 105), .ref (ad 106), .ref (ad 107), .ref (ad 108), .int m_seed]) → C 89 = aI g 12 m_down → C 91 = aI g 12 m_walk → C 103 = aI g 12 q1.1 → C 104 = aI g 144 q1.2 → C 105 = aI g 4096 q20 → lv_has ls 4 [(0, .ref (ad 86)), (1, .int p0), (2, .int x2), (3, .int x11)] → W p l e (headSpec wsX11_layFew rmX11_layFew).room s m args below meth c H locs 0 0 QQ (F0 m 103 ls []) := by
                      intro C H locs ls hP hS hag h86 h89 h91 h103 h104 h105 hl
                      obtain ⟨x21, ex21, hf⟩ := lt_e hf
                      refine lv_iinc (v := x21) (lv' := [(3, .int x21), (0, .ref (ad 86)), (1, .int p0), (2, .int x2)]) hx hb dX11_layFew_103 hl (k := 3) rfl (by rw [ex21]; rfl) (by decide) rfl (fun ls hl => ?_)
                      refine lv_goto (tgt := 36) hx hb dX11_layFew_106 (by decide) ?_
                      exact ih x21 q20 C H locs ls hP hS hag h86 h89 h91 h103 h104 h105 (lv_sub hl [1, 2, 3, 0] rfl) hf
                    clear hf
                    have hf := htq20
                    refine lv_if_eq (tgt := 103) hx hb dX11_layFew_64 (by decide) (fun c22 => ?_) (fun c22 => ?_)
                    · have hf := it_e c22 hf
                      obtain rfl := Option.some.inj hf
                      exact jnq20 C H locs ls hP hS hag h86 h89 h91 h103 h104 h105 (lv_sub hl [0, 1, 2, 3] rfl)
                    · have hf := ie_e c22 hf
                      refine lv_aload_n hx hb dX11_layFew_67 rfl (lv_at hl 0 rfl) ?_
                      refine r_get (own := RX11) (T := TX11) (n := 32) (ci := 11) (v := .ref (ad 105)) hx hb hts nX11 hown hK hP (by omega) h86 rfl 27 (by decide) k0 rfl dX11_layFew_68 ?_
                      refine lv_iload_n hx hb dX11_layFew_71 rfl (lv_at hl 2 rfl) ?_
                      refine lv_aload_n hx hb dX11_layFew_72 rfl (lv_at hl 0 rfl) ?_
                      refine lv_iload_n hx hb dX11_layFew_73 rfl (lv_at hl 3 rfl) ?_
                      refine lv_iload_n hx hb dX11_layFew_74 rfl (lv_at hl 2 rfl) ?_
                      obtain ⟨q23, hq23, hf⟩ := bd_e hf
                      refine k_iR (va_runV (C := RX11) (As := [.int x11, .int x2]) (rest := [.int x2, .ref (ad 105)]) ⟨hx, hb, hml, hown, hts⟩ (c_X11_fewBy (l := l) (sz := H.size) (p0 := x11) (p1 := x2) hN h86 h103 h105 hq23) (cwV 2 hts gX11_layFew_X11_fewBy rfl rfl rfl (by decide +kernel) ⟨Nat.le_of_ble_eq_true rfl, Nat.le_of_ble_eq_true rfl⟩) (preV_of hK hP (by omega) h86 rfl) rfl rfl hl.1 rfl (lv_room (Nat.le_of_ble_eq_true rfl)) dX11_layFew_75 ⟨Nat.le_of_ble_eq_true rfl, Nat.le_of_ble_eq_true rfl⟩) hA hP hS (fun H locs hP hS hbz_q23 => ?_)
                      refine lv_aload_n hx hb dX11_layFew_78 rfl (lv_at hl 0 rfl) ?_
                      refine r_get (own := RX11) (T := TX11) (n := 32) (ci := 11) (v := .ref (ad 105)) hx hb hts nX11 hown hK hP (by omega) h86 rfl 27 (by decide) k0 rfl dX11_layFew_79 ?_
                      refine lv_iload_n hx hb dX11_layFew_82 rfl (lv_at hl 2 rfl) ?_
                      obtain ⟨i25, x24, ex24, hf⟩ := ri_e hf
                      refine r_iald hx hb hK hP (by omega) h105 i25 dX11_layFew_83 ex24 ?_
                      obtain ⟨q26, htq26, hf⟩ := bd_e hf
                      have jnq26 : ∀ (C : Nat → va_E) (H : Heap) (locs : List Loc) (ls : Array Slot), va_P D vwCl (wd N ad C) H → va_S (Aw N ad s.heap.size) s.heap H locs → (∀ i : Nat, i ≠ 103 ∧ i ≠ 104 ∧ i ≠ 105 → C i = C0 i) → C 86 = .inr (11, [.ref (ad 87), .int m_len, .ref (ad 88), .int m_rm, .int m_there, .ref (ad 89), .ref (ad 90), .ref (ad 91), .ref (ad 92), .ref (ad 93), .ref (ad 94), .ref (ad 95), .ref (ad 96), .ref (ad 97), .ref (ad 98), .ref (ad 99), .ref (ad 100), .ref (ad 101), .int m_lift, .int m_blank, .ref (ad 102), .int m_fm, .int m_at, .int m_pl, .int m_end, .ref (ad 103), .ref (ad 104), .ref (ad 105), .ref (ad 106), .ref (ad 107), .ref (ad 108), .int m_seed]) → C 89 = aI g 12 m_down → C 91 = aI g 12 m_walk → C 103 = aI g 12 q1.1 → C 104 = aI g 144 q1.2 → C 105 = aI g 4096 f12 → lv_has ls 4 [(0, .ref (ad 86)), (1, .int p0), (2, .int x2), (3, .int x11)] → W p l e (headSpec wsX11_layFew rmX11_layFew).room s m args below meth c H locs 0 0 QQ (F0 m 102 ls [.int q26, .int x2, .ref (ad 105)]) := by
                        intro C H locs ls hP hS hag h86 h89 h91 h103 h104 h105 hl
                        obtain ⟨i28, f27, ef27, hf⟩ := wi_e hf
                        refine r_iast hx hb hK hI hAd hP hS (by omega) h105 i28 dX11_layFew_102 ef27 (fun C H locs hP hS he hn => ?_)
                        have hag : ∀ i : Nat, i ≠ 103 ∧ i ≠ 104 ∧ i ≠ 105 → C i = C0 i := fun i h => (he i (by omega)).trans (hag i h)
                        have h86 := (he 86 (by decide)).trans h86
                        have h89 := (he 89 (by decide)).trans h89
                        have h91 := (he 91 (by decide)).trans h91
                        have h103 := (he 103 (by decide)).trans h103
                        have h104 := (he 104 (by decide)).trans h104
                        have h105 : C 105 = aI g 4096 f27 := hn
                        obtain rfl := Option.some.inj hf
                        exact jnq20 C H locs ls hP hS hag h86 h89 h91 h103 h104 h105 (lv_sub hl [0, 1, 2, 3] rfl)
                      clear hf
                      have hf := htq26
                      refine lv_icmp_ge (tgt := 96) hx hb dX11_layFew_84 (by decide) (fun c29 => ?_) (fun c29 => ?_)
                      · have hf := it_e c29 hf
                        refine lv_aload_n hx hb dX11_layFew_96 rfl (lv_at hl 0 rfl) ?_
                        refine r_get (own := RX11) (T := TX11) (n := 32) (ci := 11) (v := .ref (ad 105)) hx hb hts nX11 hown hK hP (by omega) h86 rfl 27 (by decide) k0 rfl dX11_layFew_97 ?_
                        refine lv_iload_n hx hb dX11_layFew_100 rfl (lv_at hl 2 rfl) ?_
                        obtain ⟨i31, x30, ex30, hf⟩ := ri_e hf
                        refine r_iald hx hb hK hP (by omega) h105 i31 dX11_layFew_101 ex30 ?_
                        obtain rfl := Option.some.inj hf
                        exact jnq26 C H locs ls hP hS hag h86 h89 h91 h103 h104 h105 (lv_sub hl [0, 1, 2, 3] rfl)
                      · have hf := ie_e c29 hf
                        refine lv_aload_n hx hb dX11_layFew_87 rfl (lv_at hl 0 rfl) ?_
                        refine lv_iload_n hx hb dX11_layFew_88 rfl (lv_at hl 3 rfl) ?_
                        refine lv_iload_n hx hb dX11_layFew_89 rfl (lv_at hl 2 rfl) ?_
                        obtain ⟨q32, hq32, hf⟩ := bd_e hf
                        refine k_iR (va_runV (C := RX11) (As := [.int x11, .int x2]) (rest := [.int x2, .ref (ad 105)]) ⟨hx, hb, hml, hown, hts⟩ (c_X11_fewBy (l := l) (sz := H.size) (p0 := x11) (p1 := x2) hN h86 h103 h105 hq32) (cwV 2 hts gX11_layFew_X11_fewBy rfl rfl rfl (by decide +kernel) ⟨Nat.le_of_ble_eq_true rfl, Nat.le_of_ble_eq_true rfl⟩) (preV_of hK hP (by omega) h86 rfl) rfl rfl hl.1 rfl (lv_room (Nat.le_of_ble_eq_true rfl)) dX11_layFew_90 ⟨Nat.le_of_ble_eq_true rfl, Nat.le_of_ble_eq_true rfl⟩) hA hP hS (fun H locs hP hS hbz_q32 => ?_)
                        refine lv_goto (tgt := 102) hx hb dX11_layFew_93 (by decide) ?_
                        obtain rfl := Option.some.inj hf
                        exact jnq26 C H locs ls hP hS hag h86 h89 h91 h103 h104 h105 (lv_sub hl [0, 1, 2, 3] rfl)
          refine key36 _ (fun x13 f14 C H locs ls hP hS hag h86 h89 h91 h103 h104 h105 hl hf => ?_) FU 0 f9 C H locs ls hP hS hag h86 h89 h91 h103 h104 h105 (lv_sub hl [1, 2, 3, 0] rfl) hf
          obtain ⟨x33, ex33, hf⟩ := lt_e hf
          refine lv_iinc (v := x33) (lv' := [(2, .int x33), (0, .ref (ad 86)), (1, .int p0), (3, .int x13)]) hx hb dX11_layFew_109 hl (k := 2) rfl (by rw [ex33]; rfl) (by decide) rfl (fun ls hl => ?_)
          refine lv_goto (tgt := 6) hx hb dX11_layFew_112 (by decide) ?_
          exact ih x33 f14 C H locs ls hP hS hag h86 h89 h91 h103 h104 h105 (lv_sub hl [1, 2, 0] rfl) hf
        clear hf
        have hf := htq8
        refine lv_icmp_ge (tgt := 30) hx hb dX11_layFew_23 (by decide) (fun c34 => ?_) (fun c34 => ?_)
        · have hf := it_e c34 hf
          refine lv_ldcw (own := RX11) hx hb hown k2 dX11_layFew_30 ?_
          obtain rfl := Option.some.inj hf
          exact jnq8 C H locs ls hP hS hag h86 h89 h91 h103 h104 h105 (lv_sub hl [0, 1, 2] rfl)
        · have hf := ie_e c34 hf
          refine lv_iconst (v := 0) hx hb dX11_layFew_26 (by decide) ?_
          refine lv_goto (tgt := 33) hx hb dX11_layFew_27 (by decide) ?_
          obtain rfl := Option.some.inj hf
          exact jnq8 C H locs ls hP hS hag h86 h89 h91 h103 h104 h105 (lv_sub hl [0, 1, 2] rfl)
  refine key6 _ (fun x4 f5 C H locs ls hP hS hag h86 h89 h91 h103 h104 h105 hl hf => ?_) FU 0 m_few C H locs ls hP hS hag h86 h89 h91 h103 h104 h105 (lv_sub hl [1, 2, 0] rfl) hf
  obtain rfl := Option.some.inj hf
  rw [← hQ]
  exact e_vW hx hb hr hP hS ⟨hag, h103, h104, h105⟩ hlocks dX11_layFew_115

def LX11_fewest_36 (m_there : Int32) (q3 : Int32) (q4 : (Nat → Int32) × (Nat → Int32) × (Nat → Int32)) (ko : Int32 → Option (Int32 × (Nat → Int32) × (Nat → Int32) × (Nat → Int32))) : Nat → Int32 → Option (Int32 × (Nat → Int32) × (Nat → Int32) × (Nat → Int32))
  | 0, _ => none
  | n + 1, x6 =>
    if 12 ≤ x6 then
      ko x6
    else
      (f_X11_parts x6 q3 q4.1 m_there).bind fun q9 =>
      if q9 = 0 then
        lt (x6 + 1 : Int32) fun x11 =>
        LX11_fewest_36 m_there q3 q4 ko n x11
      else
        (f_X11_fewBy x6 q3 q4.1 q4.2.2).bind fun q12 =>
        ri q4.2.2 4096 (q3) fun x13 =>
        if q12 = x13 then
          some (x6, q4.1, q4.2.1, q4.2.2)
        else
          lt (x6 + 1 : Int32) fun x16 =>
          LX11_fewest_36 m_there q3 q4 ko n x16
theorem LX11_fewest_36_z (m_there : Int32) (q3 : Int32) (q4 : (Nat → Int32) × (Nat → Int32) × (Nat → Int32)) (ko : Int32 → Option (Int32 × (Nat → Int32) × (Nat → Int32) × (Nat → Int32))) (x6 : Int32) : LX11_fewest_36 m_there q3 q4 ko 0 x6 = none := rfl
theorem LX11_fewest_36_s (m_there : Int32) (q3 : Int32) (q4 : (Nat → Int32) × (Nat → Int32) × (Nat → Int32)) (ko : Int32 → Option (Int32 × (Nat → Int32) × (Nat → Int32) × (Nat → Int32))) (n : Nat) (x6 : Int32) : LX11_fewest_36 m_there q3 q4 ko (n + 1) x6 =
    if 12 ≤ x6 then
      ko x6
    else
      (f_X11_parts x6 q3 q4.1 m_there).bind fun q9 =>
      if q9 = 0 then
        lt (x6 + 1 : Int32) fun x11 =>
        LX11_fewest_36 m_there q3 q4 ko n x11
      else
        (f_X11_fewBy x6 q3 q4.1 q4.2.2).bind fun q12 =>
        ri q4.2.2 4096 (q3) fun x13 =>
        if q12 = x13 then
          some (x6, q4.1, q4.2.1, q4.2.2)
        else
          lt (x6 + 1 : Int32) fun x16 =>
          LX11_fewest_36 m_there q3 q4 ko n x16 := rfl
def f_X11_fewest (p0 : Int32) (m_down : Nat → Int32) (m_walk : Nat → Int32) (m_lik : Nat → Int32) (m_abv : Nat → Int32) (m_apart : Nat → Int32) (m_few : Nat → Int32) (m_there : Int32) : Option (Int32 × (Nat → Int32) × (Nat → Int32) × (Nat → Int32)) :=
  (f_X11_in (Int32.toInt64 p0) (0 : Int64) (1 : Int64)).bind fun q1 =>
  if q1 = 0 then
    some ((-3), m_abv, m_apart, m_few)
  else
    (f_X11_sources m_lik m_there).bind fun q3 =>
    (f_X11_layFew q3 m_down m_walk m_abv m_apart m_few m_there).bind fun q4 =>
    if p0 = 0 then
      ri q4.2.2 4096 (q3) fun x17 =>
      some (x17, q4.1, q4.2.1, q4.2.2)
    else
      LX11_fewest_36 m_there q3 q4 (fun x7 =>
        some ((-1), q4.1, q4.2.1, q4.2.2)) FU 0
abbrev rmX11_fewest : Room := { frames := 4, cells := 0, slots := 0, locals := 93 }
set_option maxHeartbeats 4000000 in
set_option maxRecDepth 100000 in
theorem c_X11_fewest {l : Launch} {D : va_G} {g : Nat → ClassId} {N : Nat} {ad : Nat → Nat} {C : Nat → va_E} {sz : Nat} {m_len : Int32} {m_rm : Int32} {m_there : Int32} {m_lift : Int32} {m_blank : Int32} {m_fm : Int32} {m_at : Int32} {m_pl : Int32} {m_end : Int32} {m_seed : Int32} {m_down : Nat → Int32} {m_walk : Nat → Int32} {m_lik : Nat → Int32} {m_abv : Nat → Int32} {m_apart : Nat → Int32} {m_few : Nat → Int32} {p0 : Int32} {rr : Int32 × (Nat → Int32) × (Nat → Int32) × (Nat → Int32)} (hN : 109 ≤ N) (hI : Inj N ad) (h86 : C 86 = .inr (11, [.ref (ad 87), .int m_len, .ref (ad 88), .int m_rm, .int m_there, .ref (ad 89), .ref (ad 90), .ref (ad 91), .ref (ad 92), .ref (ad 93), .ref (ad 94), .ref (ad 95), .ref (ad 96), .ref (ad 97), .ref (ad 98), .ref (ad 99), .ref (ad 100), .ref (ad 101), .int m_lift, .int m_blank, .ref (ad 102), .int m_fm, .int m_at, .int m_pl, .int m_end, .ref (ad 103), .ref (ad 104), .ref (ad 105), .ref (ad 106), .ref (ad 107), .ref (ad 108), .int m_seed])) (h89 : C 89 = aI g 12 m_down) (h91 : C 91 = aI g 12 m_walk) (h94 : C 94 = aI g 12 m_lik) (h103 : C 103 = aI g 12 m_abv) (h104 : C 104 = aI g 144 m_apart) (h105 : C 105 = aI g 4096 m_few) (hf : f_X11_fewest p0 m_down m_walk m_lik m_abv m_apart m_few m_there = some rr) : Met l yX11_fewest wsX11_fewest rmX11_fewest (PcW D g N ad C sz [.ref (ad 86), .int p0]) (QiW D N ad sz tP rr.1 (fun C' => (∀ i : Nat, i ≠ 103 ∧ i ≠ 104 ∧ i ≠ 105 → C' i = C i) ∧ (C' 103 = aI g 12 rr.2.1) ∧ (C' 104 = aI g 144 rr.2.2.1) ∧ (C' 105 = aI g 4096 rr.2.2.2))) 0 0 (Aw N ad sz) := by
  refine Met.ofW (cc := cX11_fewest) (maxL := 4) (ret := (some .int)) (by decide) rfl ?_
  intro p e s m args below meth c s₁ B hml hv
  obtain ⟨hav, hsz, hK, hP⟩ := hv
  subst hsz
  have hx := B.exec
  have hb := B.bytes
  have hr := B.returns
  have hts := atoms_spec (ws := wsX11_fewest) B.pre
  have hown : s.vm.findClass RX11 = some m.cls := findClass_of_methodNamed B.named
  have hlocks := B.notSynchronized
  generalize hQ : MQ below (QiW D N ad s.heap.size tP rr.1 (fun C' => (∀ i : Nat, i ≠ 103 ∧ i ≠ 104 ∧ i ≠ 105 → C' i = C i) ∧ (C' 103 = aI g 12 rr.2.1) ∧ (C' 104 = aI g 144 rr.2.2.1) ∧ (C' 105 = aI g 4096 rr.2.2.2))) args s 0 0 (Aw N ad s.heap.size) = QQ
  have hS : va_S (Aw N ad s.heap.size) s.heap s.heap [] := va_S.rf
  have hA : ∀ q, s.heap.size ≤ q → (Aw N ad s.heap.size) q := fun q h => Or.inr h
  have hAd : ∀ j : Nat, j < N → (Aw N ad s.heap.size) (ad j) := fun j h => Or.inl ⟨j, h, rfl⟩
  obtain ⟨C0, hC0⟩ : ∃ C0 : Nat → va_E, C0 = C := ⟨_, rfl⟩
  have hag : ∀ i : Nat, i ≠ 103 ∧ i ≠ 104 ∧ i ≠ 105 → C i = C0 i := fun i _ => by rw [hC0]
  rw [← hC0] at hQ
  have k0 := hts (.fieldLink RX11 68 "UpDrainModel" "few" "[I") (List.mem_of_getElem? (i := 1) rfl)
  have nX11 : ∀ w ∈ u_ws RX11 TX11 32, w ∈ wsX11_fewest := fun _ h => List.mem_cons_of_mem _ (List.mem_append_right _ h)
  have hE := lg_entry_eq m [.ref (ad 86), .int p0] 4
  rw [← hav] at hE
  rw [hE]
  have hl := lv_entry [.ref (ad 86), .int p0] (n := 4) (Nat.le_of_ble_eq_true rfl)
  generalize (lg_sl [.ref (ad 86), .int p0] ++ List.replicate (4 - (lg_sl [.ref (ad 86), .int p0]).length) Slot.unset).toArray = ls at hl ⊢
  have hl : lv_has ls 4 [(0, .ref (ad 86)), (1, .int p0)] := hl
  clear hE
  unfold f_X11_fewest at hf
  suffices hgo : ∀ (H : Heap) (locs : List Loc), va_P D vwCl (wd N ad C) H → va_S (Aw N ad s.heap.size) s.heap H locs → W p l e (headSpec wsX11_fewest rmX11_fewest).room s m args below meth c H locs 0 0 QQ (F0 m 0 ls []) from hgo s.heap [] hP hS
  clear hS hP
  intro H locs hP hS
  refine lv_iload_n hx hb dX11_fewest_0 rfl (lv_at hl 1 rfl) ?_
  refine lv_i2l hx hb dX11_fewest_1 rfl ?_
  refine lv_lconst (v := 0) hx hb dX11_fewest_2 (by decide) ?_
  refine lv_lconst (v := 1) hx hb dX11_fewest_3 (by decide) ?_
  obtain ⟨q1, hq1, hf⟩ := bd_e hf
  refine k_iR (va_runS (As := [.long (Int32.toInt64 p0), .long (0 : Int64), .long (1 : Int64)]) (rest := []) ⟨hx, hb, hml, hown, hts⟩ (c_X11_in (l := l) (sz := H.size) (p0 := (Int32.toInt64 p0)) (p1 := (0 : Int64)) (p2 := (1 : Int64)) hq1) (va_cwS 3 hts gX11_fewest_X11_in rfl rfl rfl (by decide +kernel) ⟨Nat.le_of_ble_eq_true rfl, Nat.le_of_ble_eq_true rfl⟩) preS0 rfl rfl hl.1 rfl (lv_room (Nat.le_of_ble_eq_true rfl)) dX11_fewest_4 ⟨Nat.le_of_ble_eq_true rfl, Nat.le_of_ble_eq_true rfl⟩) hA hP hS (fun H locs hP hS hbz_q1 => ?_)
  refine lv_if_ne (tgt := 13) hx hb dX11_fewest_7 (by decide) (fun c2 => ?_) (fun c2 => ?_)
  · have hf := ie_e c2 hf
    refine lv_aload_n hx hb dX11_fewest_13 rfl (lv_at hl 0 rfl) ?_
    obtain ⟨q3, hq3, hf⟩ := bd_e hf
    refine k_iR (va_runV (C := RX11) (As := []) (rest := []) ⟨hx, hb, hml, hown, hts⟩ (c_X11_sources (l := l) (sz := H.size)  hN h86 h94 hq3) (cwV 0 hts gX11_fewest_X11_sources rfl rfl rfl (by decide +kernel) ⟨Nat.le_of_ble_eq_true rfl, Nat.le_of_ble_eq_true rfl⟩) (preV_of hK hP (by omega) h86 rfl) rfl rfl hl.1 rfl (lv_room (Nat.le_of_ble_eq_true rfl)) dX11_fewest_14 ⟨Nat.le_of_ble_eq_true rfl, Nat.le_of_ble_eq_true rfl⟩) hA hP hS (fun H locs hP hS hbz_q3 => ?_)
    refine lv_istore_n (lv' := [(2, .int q3), (0, .ref (ad 86)), (1, .int p0)]) hx hb dX11_fewest_17 rfl hl (by decide) rfl (fun ls hl => ?_)
    refine lv_aload_n hx hb dX11_fewest_18 rfl (lv_at hl 1 rfl) ?_
    refine lv_iload_n hx hb dX11_fewest_19 rfl (lv_at hl 0 rfl) ?_
    obtain ⟨q4, hq4, hf⟩ := bd_e hf
    refine k_vW (va_runV (C := RX11) (As := [.int q3]) (rest := []) ⟨hx, hb, hml, hown, hts⟩ (c_X11_layFew (l := l) (sz := H.size) (p0 := q3) hN hI h86 h89 h91 h103 h104 h105 hq4) (cwV 1 hts gX11_fewest_X11_layFew rfl rfl rfl (by decide +kernel) ⟨Nat.le_of_ble_eq_true rfl, Nat.le_of_ble_eq_true rfl⟩) (preV_of hK hP (by omega) h86 rfl) rfl rfl hl.1 rfl (lv_room (Nat.le_of_ble_eq_true rfl)) dX11_fewest_20 ⟨Nat.le_of_ble_eq_true rfl, Nat.le_of_ble_eq_true rfl⟩) hA hAd hS (fun C H locs hP hS hpo => ?_)
    obtain ⟨he, h103, h104, h105⟩ := hpo
    have hag : ∀ i : Nat, i ≠ 103 ∧ i ≠ 104 ∧ i ≠ 105 → C i = C0 i := fun i h => (he i (by omega)).trans (hag i h)
    have h86 := (he 86 (by decide)).trans h86
    have h89 := (he 89 (by decide)).trans h89
    have h91 := (he 91 (by decide)).trans h91
    have h94 := (he 94 (by decide)).trans h94
    refine lv_iload_n hx hb dX11_fewest_23 rfl (lv_at hl 2 rfl) ?_
    refine lv_if_ne (tgt := 34) hx hb dX11_fewest_24 (by decide) (fun c5 => ?_) (fun c5 => ?_)
    · have hf := ie_e c5 hf
      refine lv_iconst (v := 0) hx hb dX11_fewest_34 (by decide) ?_
      refine lv_istore_n (lv' := [(3, .int 0), (2, .int q3), (0, .ref (ad 86)), (1, .int p0)]) hx hb dX11_fewest_35 rfl hl (by decide) rfl (fun ls hl => ?_)
      have key36 : ∀ (ko : Int32 → Option (Int32 × (Nat → Int32) × (Nat → Int32) × (Nat → Int32))), (∀ (x7 : Int32) (C : Nat → va_E) (H : Heap) (locs : List Loc) (ls : Array Slot), va_P D vwCl (wd N ad C) H → va_S (Aw N ad s.heap.size) s.heap H locs → (∀ i : Nat, i ≠ 103 ∧ i ≠ 104 ∧ i ≠ 105 → C i = C0 i) → C 86 = .inr (11, [.ref (ad 87), .int m_len, .ref (ad 88), .int m_rm, .int m_there, .ref (ad 89), .ref (ad 90), .ref (ad 91), .ref (ad 92), .ref (ad 93), .ref (ad 94), .ref (ad 95), .ref (ad 96), .ref (ad 97), .ref (ad 98), .ref (ad 99), .ref (ad 100), .ref (ad 101), .int m_lift, .int m_blank, .ref (ad 102), .int m_fm, .int m_at, .int m_pl, .int m_end, .ref (ad 103), .ref (ad 104), .ref (ad 105), .ref (ad 106), .ref (ad 107), .ref (ad 108), .int m_seed]) → C 89 = aI g 12 m_down → C 91 = aI g 12 m_walk → C 94 = aI g 12 m_lik → C 103 = aI g 12 q4.1 → C 104 = aI g 144 q4.2.1 → C 105 = aI g 4096 q4.2.2 → lv_has ls 4 [(0, .ref (ad 86)), (1, .int p0), (2, .int q3), (3, .int x7)] → ko x7 = some rr → W p l e (headSpec wsX11_fewest rmX11_fewest).room s m args below meth c H locs 0 0 QQ (F0 m 74 ls [])) → ∀ (n : Nat) (x6 : Int32) (C : Nat → va_E) (H : Heap) (locs : List Loc) (ls : Array Slot), va_P D vwCl (wd N ad C) H → va_S (Aw N ad s.heap.size) s.heap H locs → (∀ i : Nat, i ≠ 103 ∧ i ≠ 104 ∧ i ≠ 105 → C i = C0 i) → C 86 = .inr (11, [.ref (ad 87), .int m_len, .ref (ad 88), .int m_rm, .int m_there, .ref (ad 89), .ref (ad 90), .ref (ad 91), .ref (ad 92), .ref (ad 93), .ref (ad 94), .ref (ad 95), .ref (ad 96), .ref (ad 97), .ref (ad 98), .ref (ad 99), .ref (ad 100), .ref (ad 101), .int m_lift, .int m_blank, .ref (ad 102), .int m_fm, .int m_at, .int m_pl, .int m_end, .ref (ad 103), .ref (ad 104), .ref (ad 105), .ref (ad 106), .ref (ad 107), .ref (ad 108), .int m_seed]) → C 89 = aI g 12 m_down → C 91 = aI g 12 m_walk → C 94 = aI g 12 m_lik → C 103 = aI g 12 q4.1 → C 104 = aI g 144 q4.2.1 → C 105 = aI g 4096 q4.2.2 → lv_has ls 4 [(0, .ref (ad 86)), (1, .int p0), (2, .int q3), (3, .int x6)] → LX11_fewest_36 m_there q3 q4 ko n x6 = some rr → W p l e (headSpec wsX11_fewest rmX11_fewest).room s m args below meth c H locs 0 0 QQ (F0 m 36 ls []) := by
        intro ko hko n
        induction n with
        | zero =>
          intro x6 C H locs ls hP hS hag h86 h89 h91 h94 h103 h104 h105 hl hf
          rw [LX11_fewest_36_z] at hf
          cases hf
        | succ n ih =>
          intro x6 C H locs ls hP hS hag h86 h89 h91 h94 h103 h104 h105 hl hf
          rw [LX11_fewest_36_s] at hf
          refine lv_iload_n hx hb dX11_fewest_36 rfl (lv_at hl 3 rfl) ?_
          refine lv_bipush (v := 12) hx hb dX11_fewest_37 (by decide) ?_
          refine lv_icmp_ge (tgt := 74) hx hb dX11_fewest_39 (by decide) (fun c8 => ?_) (fun c8 => ?_)
          · have hf := it_e c8 hf
            exact hko x6 C H locs ls hP hS hag h86 h89 h91 h94 h103 h104 h105 (lv_sub hl [0, 1, 2, 3] rfl) hf
          · have hf := ie_e c8 hf
            refine lv_aload_n hx hb dX11_fewest_42 rfl (lv_at hl 0 rfl) ?_
            refine lv_iload_n hx hb dX11_fewest_43 rfl (lv_at hl 3 rfl) ?_
            refine lv_iload_n hx hb dX11_fewest_44 rfl (lv_at hl 2 rfl) ?_
            obtain ⟨q9, hq9, hf⟩ := bd_e hf
            refine k_iR (va_runV (C := RX11) (As := [.int x6, .int q3]) (rest := []) ⟨hx, hb, hml, hown, hts⟩ (c_X11_parts (l := l) (sz := H.size) (p0 := x6) (p1 := q3) hN h86 h103 hq9) (cwV 2 hts gX11_fewest_X11_parts rfl rfl rfl (by decide +kernel) ⟨Nat.le_of_ble_eq_true rfl, Nat.le_of_ble_eq_true rfl⟩) (preV_of hK hP (by omega) h86 rfl) rfl rfl hl.1 rfl (lv_room (Nat.le_of_ble_eq_true rfl)) dX11_fewest_45 ⟨Nat.le_of_ble_eq_true rfl, Nat.le_of_ble_eq_true rfl⟩) hA hP hS (fun H locs hP hS hbz_q9 => ?_)
            refine lv_if_eq (tgt := 68) hx hb dX11_fewest_48 (by decide) (fun c10 => ?_) (fun c10 => ?_)
            · have hf := it_e c10 hf
              obtain ⟨x11, ex11, hf⟩ := lt_e hf
              refine lv_iinc (v := x11) (lv' := [(3, .int x11), (0, .ref (ad 86)), (1, .int p0), (2, .int q3)]) hx hb dX11_fewest_68 hl (k := 3) rfl (by rw [ex11]; rfl) (by decide) rfl (fun ls hl => ?_)
              refine lv_goto (tgt := 36) hx hb dX11_fewest_71 (by decide) ?_
              exact ih x11 C H locs ls hP hS hag h86 h89 h91 h94 h103 h104 h105 (lv_sub hl [1, 2, 3, 0] rfl) hf
            · have hf := ie_e c10 hf
              refine lv_aload_n hx hb dX11_fewest_51 rfl (lv_at hl 0 rfl) ?_
              refine lv_iload_n hx hb dX11_fewest_52 rfl (lv_at hl 3 rfl) ?_
              refine lv_iload_n hx hb dX11_fewest_53 rfl (lv_at hl 2 rfl) ?_
              obtain ⟨q12, hq12, hf⟩ := bd_e hf
              refine k_iR (va_runV (C := RX11) (As := [.int x6, .int q3]) (rest := []) ⟨hx, hb, hml, hown, hts⟩ (c_X11_fewBy (l := l) (sz := H.size) (p0 := x6) (p1 := q3) hN h86 h103 h105 hq12) (cwV 2 hts gX11_fewest_X11_fewBy rfl rfl rfl (by decide +kernel) ⟨Nat.le_of_ble_eq_true rfl, Nat.le_of_ble_eq_true rfl⟩) (preV_of hK hP (by omega) h86 rfl) rfl rfl hl.1 rfl (lv_room (Nat.le_of_ble_eq_true rfl)) dX11_fewest_54 ⟨Nat.le_of_ble_eq_true rfl, Nat.le_of_ble_eq_true rfl⟩) hA hP hS (fun H locs hP hS hbz_q12 => ?_)
              refine lv_aload_n hx hb dX11_fewest_57 rfl (lv_at hl 0 rfl) ?_
              refine r_get (own := RX11) (T := TX11) (n := 32) (ci := 11) (v := .ref (ad 105)) hx hb hts nX11 hown hK hP (by omega) h86 rfl 27 (by decide) k0 rfl dX11_fewest_58 ?_
              refine lv_iload_n hx hb dX11_fewest_61 rfl (lv_at hl 2 rfl) ?_
              obtain ⟨i14, x13, ex13, hf⟩ := ri_e hf
              refine r_iald hx hb hK hP (by omega) h105 i14 dX11_fewest_62 ex13 ?_
              refine lv_icmp_ne (tgt := 68) hx hb dX11_fewest_63 (by decide) (fun c15 => ?_) (fun c15 => ?_)
              · have hf := ie_e c15 hf
                obtain ⟨x16, ex16, hf⟩ := lt_e hf
                refine lv_iinc (v := x16) (lv' := [(3, .int x16), (0, .ref (ad 86)), (1, .int p0), (2, .int q3)]) hx hb dX11_fewest_68 hl (k := 3) rfl (by rw [ex16]; rfl) (by decide) rfl (fun ls hl => ?_)
                refine lv_goto (tgt := 36) hx hb dX11_fewest_71 (by decide) ?_
                exact ih x16 C H locs ls hP hS hag h86 h89 h91 h94 h103 h104 h105 (lv_sub hl [1, 2, 3, 0] rfl) hf
              · have hf := it_e c15 hf
                refine lv_iload_n hx hb dX11_fewest_66 rfl (lv_at hl 3 rfl) ?_
                obtain rfl := Option.some.inj hf
                rw [← hQ]
                exact e_iW hx hb hr rfl (tP_i _) hP hS ⟨hag, h103, h104, h105⟩ hlocks dX11_fewest_67
      refine key36 _ (fun x7 C H locs ls hP hS hag h86 h89 h91 h94 h103 h104 h105 hl hf => ?_) FU 0 C H locs ls hP hS hag h86 h89 h91 h94 h103 h104 h105 (lv_sub hl [2, 3, 1, 0] rfl) hf
      refine lv_iconst (v := (-1)) hx hb dX11_fewest_74 (by decide) ?_
      obtain rfl := Option.some.inj hf
      rw [← hQ]
      exact e_iW hx hb hr rfl (tP_i _) hP hS ⟨hag, h103, h104, h105⟩ hlocks dX11_fewest_75
    · have hf := it_e c5 hf
      refine lv_aload_n hx hb dX11_fewest_27 rfl (lv_at hl 1 rfl) ?_
      refine r_get (own := RX11) (T := TX11) (n := 32) (ci := 11) (v := .ref (ad 105)) hx hb hts nX11 hown hK hP (by omega) h86 rfl 27 (by decide) k0 rfl dX11_fewest_28 ?_
      refine lv_iload_n hx hb dX11_fewest_31 rfl (lv_at hl 0 rfl) ?_
      obtain ⟨i18, x17, ex17, hf⟩ := ri_e hf
      refine r_iald hx hb hK hP (by omega) h105 i18 dX11_fewest_32 ex17 ?_
      obtain rfl := Option.some.inj hf
      rw [← hQ]
      exact e_iW hx hb hr rfl (tP_i _) hP hS ⟨hag, h103, h104, h105⟩ hlocks dX11_fewest_33
  · have hf := it_e c2 hf
    refine lv_bipush (v := (-3)) hx hb dX11_fewest_10 (by decide) ?_
    obtain rfl := Option.some.inj hf
    rw [← hQ]
    exact e_iW hx hb hr rfl (tP_i _) hP hS ⟨hag, h103, h104, h105⟩ hlocks dX11_fewest_12

