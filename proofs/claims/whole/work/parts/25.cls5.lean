def f_X10_answers (p0 : Int32) (p1 : Int32) (p2 : Int32) (p3 : Int32) (t_down : Nat → Int32) (t_pac : Nat → Int32) (t_there : Int32) (w_src : Int32) (w_over : Nat → Int32) : Option (Int32) :=
  if p2 < 1 then
    some ((-3))
  else
    if p2 ≤ 8 then
      (f_X10_isSource p0 t_there w_src).bind fun q3 =>
      if q3 = 0 then
        some ((-2))
      else
        (f_X10_areLids p1 p2 t_there).bind fun q5 =>
        if q5 = 0 then
          some ((-2))
        else
          (f_X10_isShyness p3).bind fun q7 =>
          if q7 = 0 then
            some ((-3))
          else
            (f_X3_answersOf p0 p1 p2 p3 t_down t_pac w_over).bind fun q9 =>
            some (q9)
    else
      some ((-3))
abbrev rmX10_answers : Room := { frames := 3, cells := 0, slots := 0, locals := 65 }
set_option maxHeartbeats 4000000 in
set_option maxRecDepth 100000 in
theorem c_X10_answers {l : Launch} {D : va_G} {g : Nat → ClassId} {N : Nat} {ad : Nat → Nat} {C : Nat → va_E} {sz : Nat} {t_there : Int32} {t_lift : Int32} {t_none : Int32} {t_down : Nat → Int32} {t_pac : Nat → Int32} {w_src : Int32} {w_over : Nat → Int32} {p0 : Int32} {p1 : Int32} {p2 : Int32} {p3 : Int32} {rr : Int32} (hN : 86 ≤ N) (h0 : C 0 = .inr (10, [.ref (ad 1), .ref (ad 5), .ref (ad 19), .ref (ad 21), .ref (ad 60), .ref (ad 77), .ref (ad 81), .ref (ad 84), .ref (ad 85)])) (h5 : C 5 = .inr (7, [.ref (ad 6), .ref (ad 7), .ref (ad 8), .ref (ad 9), .ref (ad 10), .ref (ad 11), .ref (ad 12), .ref (ad 13), .ref (ad 14), .ref (ad 15), .ref (ad 16), .ref (ad 17), .ref (ad 18), .int t_there, .int t_lift, .int t_none])) (h6 : C 6 = aI g 12 t_down) (h8 : C 8 = aI g 12 t_pac) (h19 : C 19 = .inr (9, [.ref (ad 5), .ref (ad 20), .int w_src])) (h20 : C 20 = aI g 12 w_over) (h81 : C 81 = .inr (3, [.ref (ad 5), .ref (ad 19), .ref (ad 82), .ref (ad 83)])) (hf : f_X10_answers p0 p1 p2 p3 t_down t_pac t_there w_src w_over = some rr) : Met l yX10_answers wsX10_answers rmX10_answers (PcW D g N ad C sz [.ref (ad 0), .int p0, .int p1, .int p2, .int p3]) (QiR sz tP rr) 0 0 (An sz) := by
  refine Met.ofW (cc := cX10_answers) (maxL := 5) (ret := (some .int)) (by decide) rfl ?_
  intro p e s m args below meth c s₁ B hml hv
  obtain ⟨hav, hsz, hK, hP⟩ := hv
  subst hsz
  have hx := B.exec
  have hb := B.bytes
  have hr := B.returns
  have hts := atoms_spec (ws := wsX10_answers) B.pre
  have hown : s.vm.findClass RX10 = some m.cls := findClass_of_methodNamed B.named
  have hlocks := B.notSynchronized
  generalize hQ : MQ below (QiR s.heap.size tP rr) args s 0 0 (An s.heap.size) = QQ
  have hS : va_S (An s.heap.size) s.heap s.heap [] := va_S.rf
  have hA : ∀ q, s.heap.size ≤ q → (An s.heap.size) q := fun q h => h
  have k0 := hts (.fieldLink RX10 60 "UpDrain" "lids" "LUpDrain$Lids;") (List.mem_of_getElem? (i := 1) rfl)
  have nX10 : ∀ w ∈ u_ws RX10 TX10 9, w ∈ wsX10_answers := fun _ h => List.mem_cons_of_mem _ (List.mem_append_left _ (List.mem_append_left _ (List.mem_append_left _ (List.mem_append_right _ h))))
  have hE := lg_entry_eq m [.ref (ad 0), .int p0, .int p1, .int p2, .int p3] 5
  rw [← hav] at hE
  rw [hE]
  have hl := lv_entry [.ref (ad 0), .int p0, .int p1, .int p2, .int p3] (n := 5) (Nat.le_of_ble_eq_true rfl)
  generalize (lg_sl [.ref (ad 0), .int p0, .int p1, .int p2, .int p3] ++ List.replicate (5 - (lg_sl [.ref (ad 0), .int p0, .int p1, .int p2, .int p3]).length) Slot.unset).toArray = ls at hl ⊢
  have hl : lv_has ls 5 [(0, .ref (ad 0)), (1, .int p0), (2, .int p1), (3, .int p2), (4, .int p3)] := hl
  clear hE
  unfold f_X10_answers at hf
  suffices hgo : ∀ (H : Heap) (locs : List Loc), va_P D vwCl (wd N ad C) H → va_S (An s.heap.size) s.heap H locs → W p l e (headSpec wsX10_answers rmX10_answers).room s m args below meth c H locs 0 0 QQ (F0 m 0 ls []) from hgo s.heap [] hP hS
  clear hS hP
  intro H locs hP hS
  refine lv_iload_n hx hb dX10_answers_0 rfl (lv_at hl 3 rfl) ?_
  refine lv_iconst (v := 1) hx hb dX10_answers_1 (by decide) ?_
  refine lv_icmp_lt (tgt := 11) hx hb dX10_answers_2 (by decide) (fun c1 => ?_) (fun c1 => ?_)
  · have hf := it_e c1 hf
    refine lv_bipush (v := (-3)) hx hb dX10_answers_11 (by decide) ?_
    obtain rfl := Option.some.inj hf
    rw [← hQ]
    exact e_iR hx hb hr rfl (tP_i _) hS hlocks dX10_answers_13
  · have hf := ie_e c1 hf
    refine lv_iload_n hx hb dX10_answers_5 rfl (lv_at hl 3 rfl) ?_
    refine lv_bipush (v := 8) hx hb dX10_answers_6 (by decide) ?_
    refine lv_icmp_le (tgt := 14) hx hb dX10_answers_8 (by decide) (fun c2 => ?_) (fun c2 => ?_)
    · have hf := it_e c2 hf
      refine lv_aload_n hx hb dX10_answers_14 rfl (lv_at hl 0 rfl) ?_
      refine lv_iload_n hx hb dX10_answers_15 rfl (lv_at hl 1 rfl) ?_
      obtain ⟨q3, hq3, hf⟩ := bd_e hf
      refine k_iR (va_runV (C := RX10) (As := [.int p0]) (rest := []) ⟨hx, hb, hml, hown, hts⟩ (c_X10_isSource (l := l) (sz := H.size) (p0 := p0) hN h0 h5 h19 hq3) (cwV 1 hts gX10_answers_X10_isSource rfl rfl rfl (by decide +kernel) ⟨Nat.le_of_ble_eq_true rfl, Nat.le_of_ble_eq_true rfl⟩) (preV_of hK hP (by omega) h0 rfl) rfl rfl hl.1 rfl (lv_room (Nat.le_of_ble_eq_true rfl)) dX10_answers_16 ⟨Nat.le_of_ble_eq_true rfl, Nat.le_of_ble_eq_true rfl⟩) hA hP hS (fun H locs hP hS hbz_q3 => ?_)
      refine lv_if_eq (tgt := 31) hx hb dX10_answers_19 (by decide) (fun c4 => ?_) (fun c4 => ?_)
      · have hf := it_e c4 hf
        refine lv_bipush (v := (-2)) hx hb dX10_answers_31 (by decide) ?_
        obtain rfl := Option.some.inj hf
        rw [← hQ]
        exact e_iR hx hb hr rfl (tP_i _) hS hlocks dX10_answers_33
      · have hf := ie_e c4 hf
        refine lv_aload_n hx hb dX10_answers_22 rfl (lv_at hl 0 rfl) ?_
        refine lv_iload_n hx hb dX10_answers_23 rfl (lv_at hl 2 rfl) ?_
        refine lv_iload_n hx hb dX10_answers_24 rfl (lv_at hl 3 rfl) ?_
        obtain ⟨q5, hq5, hf⟩ := bd_e hf
        refine k_iR (va_runV (C := RX10) (As := [.int p1, .int p2]) (rest := []) ⟨hx, hb, hml, hown, hts⟩ (c_X10_areLids (l := l) (sz := H.size) (p0 := p1) (p1 := p2) hN h0 h5 hq5) (cwV 2 hts gX10_answers_X10_areLids rfl rfl rfl (by decide +kernel) ⟨Nat.le_of_ble_eq_true rfl, Nat.le_of_ble_eq_true rfl⟩) (preV_of hK hP (by omega) h0 rfl) rfl rfl hl.1 rfl (lv_room (Nat.le_of_ble_eq_true rfl)) dX10_answers_25 ⟨Nat.le_of_ble_eq_true rfl, Nat.le_of_ble_eq_true rfl⟩) hA hP hS (fun H locs hP hS hbz_q5 => ?_)
        refine lv_if_ne (tgt := 34) hx hb dX10_answers_28 (by decide) (fun c6 => ?_) (fun c6 => ?_)
        · have hf := ie_e c6 hf
          refine lv_iload hx hb dX10_answers_34 (lv_at hl 4 rfl) ?_
          obtain ⟨q7, hq7, hf⟩ := bd_e hf
          refine k_iR (va_runS (As := [.int p3]) (rest := []) ⟨hx, hb, hml, hown, hts⟩ (c_X10_isShyness (l := l) (sz := H.size) (p0 := p3) hq7) (va_cwS 1 hts gX10_answers_X10_isShyness rfl rfl rfl (by decide +kernel) ⟨Nat.le_of_ble_eq_true rfl, Nat.le_of_ble_eq_true rfl⟩) preS0 rfl rfl hl.1 rfl (lv_room (Nat.le_of_ble_eq_true rfl)) dX10_answers_36 ⟨Nat.le_of_ble_eq_true rfl, Nat.le_of_ble_eq_true rfl⟩) hA hP hS (fun H locs hP hS hbz_q7 => ?_)
          refine lv_if_eq (tgt := 57) hx hb dX10_answers_39 (by decide) (fun c8 => ?_) (fun c8 => ?_)
          · have hf := it_e c8 hf
            refine lv_bipush (v := (-3)) hx hb dX10_answers_57 (by decide) ?_
            obtain rfl := Option.some.inj hf
            rw [← hQ]
            exact e_iR hx hb hr rfl (tP_i _) hS hlocks dX10_answers_59
          · have hf := ie_e c8 hf
            refine lv_aload_n hx hb dX10_answers_42 rfl (lv_at hl 0 rfl) ?_
            refine r_get (own := RX10) (T := TX10) (n := 9) (ci := 10) (v := .ref (ad 81)) hx hb hts nX10 hown hK hP (by omega) h0 rfl 6 (by decide) k0 rfl dX10_answers_43 ?_
            refine lv_iload_n hx hb dX10_answers_46 rfl (lv_at hl 1 rfl) ?_
            refine lv_iload_n hx hb dX10_answers_47 rfl (lv_at hl 2 rfl) ?_
            refine lv_iload_n hx hb dX10_answers_48 rfl (lv_at hl 3 rfl) ?_
            refine lv_iload hx hb dX10_answers_49 (lv_at hl 4 rfl) ?_
            obtain ⟨q9, hq9, hf⟩ := bd_e hf
            refine k_iR (va_runV (C := RX3) (As := [.int p0, .int p1, .int p2, .int p3]) (rest := []) ⟨hx, hb, hml, hown, hts⟩ (c_X3_answersOf (l := l) (sz := H.size) (p0 := p0) (p1 := p1) (p2 := p2) (p3 := p3) hN h5 h6 h8 h19 h20 h81 hq9) (cwV 4 hts gX10_answers_X3_answersOf rfl rfl rfl (by decide +kernel) ⟨Nat.le_of_ble_eq_true rfl, Nat.le_of_ble_eq_true rfl⟩) (preV_of hK hP (by omega) h81 rfl) rfl rfl hl.1 rfl (lv_room (Nat.le_of_ble_eq_true rfl)) dX10_answers_51 ⟨Nat.le_of_ble_eq_true rfl, Nat.le_of_ble_eq_true rfl⟩) hA hP hS (fun H locs hP hS hbz_q9 => ?_)
            refine lv_goto (tgt := 59) hx hb dX10_answers_54 (by decide) ?_
            obtain rfl := Option.some.inj hf
            rw [← hQ]
            exact e_iR hx hb hr rfl (tP_i _) hS hlocks dX10_answers_59
        · have hf := it_e c6 hf
          refine lv_bipush (v := (-2)) hx hb dX10_answers_31 (by decide) ?_
          obtain rfl := Option.some.inj hf
          rw [← hQ]
          exact e_iR hx hb hr rfl (tP_i _) hS hlocks dX10_answers_33
    · have hf := ie_e c2 hf
      refine lv_bipush (v := (-3)) hx hb dX10_answers_11 (by decide) ?_
      obtain rfl := Option.some.inj hf
      rw [← hQ]
      exact e_iR hx hb hr rfl (tP_i _) hS hlocks dX10_answers_13

def f_X10_hang (p0 : Int32) (t_down : Nat → Int32) (t_pac : Nat → Int32) (t_there : Int32) (w_src : Int32) (w_over : Nat → Int32) (l_unl : Nat → Int32) : Option (Int32 × (Nat → Int32)) :=
  if p0 < 0 then
    some ((-3), l_unl)
  else
    if p0 ≤ 999 then
      (f_X3_fewestToHang p0 t_down t_pac t_there w_src w_over l_unl).bind fun q3 =>
      some (q3.1, q3.2)
    else
      some ((-3), l_unl)
abbrev rmX10_hang : Room := { frames := 4, cells := 0, slots := 0, locals := 95 }
set_option maxHeartbeats 4000000 in
set_option maxRecDepth 100000 in
theorem c_X10_hang {l : Launch} {D : va_G} {g : Nat → ClassId} {N : Nat} {ad : Nat → Nat} {C : Nat → va_E} {sz : Nat} {t_there : Int32} {t_lift : Int32} {t_none : Int32} {t_down : Nat → Int32} {t_pac : Nat → Int32} {w_src : Int32} {w_over : Nat → Int32} {l_unl : Nat → Int32} {p0 : Int32} {rr : Int32 × (Nat → Int32)} (hN : 86 ≤ N) (hI : Inj N ad) (h0 : C 0 = .inr (10, [.ref (ad 1), .ref (ad 5), .ref (ad 19), .ref (ad 21), .ref (ad 60), .ref (ad 77), .ref (ad 81), .ref (ad 84), .ref (ad 85)])) (h5 : C 5 = .inr (7, [.ref (ad 6), .ref (ad 7), .ref (ad 8), .ref (ad 9), .ref (ad 10), .ref (ad 11), .ref (ad 12), .ref (ad 13), .ref (ad 14), .ref (ad 15), .ref (ad 16), .ref (ad 17), .ref (ad 18), .int t_there, .int t_lift, .int t_none])) (h6 : C 6 = aI g 12 t_down) (h8 : C 8 = aI g 12 t_pac) (h19 : C 19 = .inr (9, [.ref (ad 5), .ref (ad 20), .int w_src])) (h20 : C 20 = aI g 12 w_over) (h81 : C 81 = .inr (3, [.ref (ad 5), .ref (ad 19), .ref (ad 82), .ref (ad 83)])) (h83 : C 83 = aI g 66 l_unl) (hf : f_X10_hang p0 t_down t_pac t_there w_src w_over l_unl = some rr) : Met l yX10_hang wsX10_hang rmX10_hang (PcW D g N ad C sz [.ref (ad 0), .int p0]) (QiW D N ad sz tP rr.1 (fun C' => (∀ i : Nat, i ≠ 83 → C' i = C i) ∧ (C' 83 = aI g 66 rr.2))) 0 0 (Aw N ad sz) := by
  refine Met.ofW (cc := cX10_hang) (maxL := 2) (ret := (some .int)) (by decide) rfl ?_
  intro p e s m args below meth c s₁ B hml hv
  obtain ⟨hav, hsz, hK, hP⟩ := hv
  subst hsz
  have hx := B.exec
  have hb := B.bytes
  have hr := B.returns
  have hts := atoms_spec (ws := wsX10_hang) B.pre
  have hown : s.vm.findClass RX10 = some m.cls := findClass_of_methodNamed B.named
  have hlocks := B.notSynchronized
  generalize hQ : MQ below (QiW D N ad s.heap.size tP rr.1 (fun C' => (∀ i : Nat, i ≠ 83 → C' i = C i) ∧ (C' 83 = aI g 66 rr.2))) args s 0 0 (Aw N ad s.heap.size) = QQ
  have hS : va_S (Aw N ad s.heap.size) s.heap s.heap [] := va_S.rf
  have hA : ∀ q, s.heap.size ≤ q → (Aw N ad s.heap.size) q := fun q h => Or.inr h
  have hAd : ∀ j : Nat, j < N → (Aw N ad s.heap.size) (ad j) := fun j h => Or.inl ⟨j, h, rfl⟩
  obtain ⟨C0, hC0⟩ : ∃ C0 : Nat → va_E, C0 = C := ⟨_, rfl⟩
  have hag : ∀ i : Nat, i ≠ 83 → C i = C0 i := fun i _ => by rw [hC0]
  rw [← hC0] at hQ
  have k0 := hts (.fieldLink RX10 60 "UpDrain" "lids" "LUpDrain$Lids;") (List.mem_of_getElem? (i := 1) rfl)
  have nX10 : ∀ w ∈ u_ws RX10 TX10 9, w ∈ wsX10_hang := fun _ h => List.mem_cons_of_mem _ (List.mem_append_left _ (List.mem_append_left _ (List.mem_append_left _ (List.mem_append_right _ h))))
  have hE := lg_entry_eq m [.ref (ad 0), .int p0] 2
  rw [← hav] at hE
  rw [hE]
  have hl := lv_entry [.ref (ad 0), .int p0] (n := 2) (Nat.le_of_ble_eq_true rfl)
  generalize (lg_sl [.ref (ad 0), .int p0] ++ List.replicate (2 - (lg_sl [.ref (ad 0), .int p0]).length) Slot.unset).toArray = ls at hl ⊢
  have hl : lv_has ls 2 [(0, .ref (ad 0)), (1, .int p0)] := hl
  clear hE
  unfold f_X10_hang at hf
  suffices hgo : ∀ (H : Heap) (locs : List Loc), va_P D vwCl (wd N ad C) H → va_S (Aw N ad s.heap.size) s.heap H locs → W p l e (headSpec wsX10_hang rmX10_hang).room s m args below meth c H locs 0 0 QQ (F0 m 0 ls []) from hgo s.heap [] hP hS
  clear hS hP
  intro H locs hP hS
  refine lv_iload_n hx hb dX10_hang_0 rfl (lv_at hl 1 rfl) ?_
  refine lv_if_lt (tgt := 11) hx hb dX10_hang_1 (by decide) (fun c1 => ?_) (fun c1 => ?_)
  · have hf := it_e c1 hf
    refine lv_bipush (v := (-3)) hx hb dX10_hang_11 (by decide) ?_
    refine lv_goto (tgt := 24) hx hb dX10_hang_13 (by decide) ?_
    obtain rfl := Option.some.inj hf
    rw [← hQ]
    exact e_iW hx hb hr rfl (tP_i _) hP hS ⟨hag, h83⟩ hlocks dX10_hang_24
  · have hf := ie_e c1 hf
    refine lv_iload_n hx hb dX10_hang_4 rfl (lv_at hl 1 rfl) ?_
    refine lv_sipush (v := 999) hx hb dX10_hang_5 (by decide) ?_
    refine lv_icmp_le (tgt := 16) hx hb dX10_hang_8 (by decide) (fun c2 => ?_) (fun c2 => ?_)
    · have hf := it_e c2 hf
      refine lv_aload_n hx hb dX10_hang_16 rfl (lv_at hl 0 rfl) ?_
      refine r_get (own := RX10) (T := TX10) (n := 9) (ci := 10) (v := .ref (ad 81)) hx hb hts nX10 hown hK hP (by omega) h0 rfl 6 (by decide) k0 rfl dX10_hang_17 ?_
      refine lv_iload_n hx hb dX10_hang_20 rfl (lv_at hl 1 rfl) ?_
      obtain ⟨q3, hq3, hf⟩ := bd_e hf
      refine k_iW (va_runV (C := RX3) (As := [.int p0]) (rest := []) ⟨hx, hb, hml, hown, hts⟩ (c_X3_fewestToHang (l := l) (sz := H.size) (p0 := p0) hN hI h5 h6 h8 h19 h20 h81 h83 hq3) (cwV 1 hts gX10_hang_X3_fewestToHang rfl rfl rfl (by decide +kernel) ⟨Nat.le_of_ble_eq_true rfl, Nat.le_of_ble_eq_true rfl⟩) (preV_of hK hP (by omega) h81 rfl) rfl rfl hl.1 rfl (lv_room (Nat.le_of_ble_eq_true rfl)) dX10_hang_21 ⟨Nat.le_of_ble_eq_true rfl, Nat.le_of_ble_eq_true rfl⟩) hA hAd hS (fun C H locs hP hS hpo hbz_q3 => ?_)
      obtain ⟨he, h83⟩ := hpo
      have hag : ∀ i : Nat, i ≠ 83 → C i = C0 i := fun i h => (he i (by omega)).trans (hag i h)
      have h0 := (he 0 (by decide)).trans h0
      have h5 := (he 5 (by decide)).trans h5
      have h6 := (he 6 (by decide)).trans h6
      have h8 := (he 8 (by decide)).trans h8
      have h19 := (he 19 (by decide)).trans h19
      have h20 := (he 20 (by decide)).trans h20
      have h81 := (he 81 (by decide)).trans h81
      obtain rfl := Option.some.inj hf
      rw [← hQ]
      exact e_iW hx hb hr rfl (tP_i _) hP hS ⟨hag, h83⟩ hlocks dX10_hang_24
    · have hf := ie_e c2 hf
      refine lv_bipush (v := (-3)) hx hb dX10_hang_11 (by decide) ?_
      refine lv_goto (tgt := 24) hx hb dX10_hang_13 (by decide) ?_
      obtain rfl := Option.some.inj hf
      rw [← hQ]
      exact e_iW hx hb hr rfl (tP_i _) hP hS ⟨hag, h83⟩ hlocks dX10_hang_24

def f_X10_day (p0 : Int32) (p1 : Int32) (p2 : Int32) (t_down : Nat → Int32) (t_pac : Nat → Int32) (t_lik : Nat → Int32) (t_wy : Nat → Int32) (t_wn : Nat → Int32) (t_lift : Int32) (w_src : Int32) (w_over : Nat → Int32) (h_solved : Int32) (h_few : Nat → Int32) (h_sum : Nat → Int32) (h_min : Nat → Int32) (hn1 : Nat) (hn2 : Nat) (hn3 : Nat) (d_seed : Int32) (d_min : Int32) (d_gue : Int32) (d_src : Int32) (d_lif : Int32) : Option (Int32 × Int32 × (Nat → Int32) × (Nat → Int32) × (Nat → Int32) × Nat × Nat × Nat × Int32 × Int32 × Int32 × Int32 × Int32) :=
  (f_X10_isCup p1).bind fun q1 =>
  if q1 = 0 then
    some ((-2), h_solved, h_few, h_sum, h_min, hn1, hn2, hn3, d_seed, d_min, d_gue, d_src, d_lif)
  else
    if p0 < 0 then
      some ((-3), h_solved, h_few, h_sum, h_min, hn1, hn2, hn3, d_seed, d_min, d_gue, d_src, d_lif)
    else
      if 65536 ≤ p0 then
        some ((-3), h_solved, h_few, h_sum, h_min, hn1, hn2, hn3, d_seed, d_min, d_gue, d_src, d_lif)
      else
        if p2 < 0 then
          some ((-3), h_solved, h_few, h_sum, h_min, hn1, hn2, hn3, d_seed, d_min, d_gue, d_src, d_lif)
        else
          if p2 ≤ 3 then
            if w_src = 0 then
              some ((-4), h_solved, h_few, h_sum, h_min, hn1, hn2, hn3, d_seed, d_min, d_gue, d_src, d_lif)
            else
              (f_X0_go p0 p1 t_down t_pac t_lik t_wy t_wn t_lift w_src w_over h_solved h_few h_sum h_min hn1 hn2 hn3 d_seed d_min d_gue d_src d_lif).bind fun q8 =>
              if p2 = 0 then
                some (q8.2.2.2.2.2.2.2.2.1, q8.1, q8.2.1, q8.2.2.1, q8.2.2.2.1, q8.2.2.2.2.1, q8.2.2.2.2.2.1, q8.2.2.2.2.2.2.1, q8.2.2.2.2.2.2.2.1, q8.2.2.2.2.2.2.2.2.1, q8.2.2.2.2.2.2.2.2.2.1, q8.2.2.2.2.2.2.2.2.2.2.1, q8.2.2.2.2.2.2.2.2.2.2.2)
              else if p2 = 1 then
                some (q8.2.2.2.2.2.2.2.2.2.1, q8.1, q8.2.1, q8.2.2.1, q8.2.2.2.1, q8.2.2.2.2.1, q8.2.2.2.2.2.1, q8.2.2.2.2.2.2.1, q8.2.2.2.2.2.2.2.1, q8.2.2.2.2.2.2.2.2.1, q8.2.2.2.2.2.2.2.2.2.1, q8.2.2.2.2.2.2.2.2.2.2.1, q8.2.2.2.2.2.2.2.2.2.2.2)
              else if p2 = 2 then
                some (q8.2.2.2.2.2.2.2.2.2.2.1, q8.1, q8.2.1, q8.2.2.1, q8.2.2.2.1, q8.2.2.2.2.1, q8.2.2.2.2.2.1, q8.2.2.2.2.2.2.1, q8.2.2.2.2.2.2.2.1, q8.2.2.2.2.2.2.2.2.1, q8.2.2.2.2.2.2.2.2.2.1, q8.2.2.2.2.2.2.2.2.2.2.1, q8.2.2.2.2.2.2.2.2.2.2.2)
              else 
                some (q8.2.2.2.2.2.2.2.2.2.2.2, q8.1, q8.2.1, q8.2.2.1, q8.2.2.2.1, q8.2.2.2.2.1, q8.2.2.2.2.2.1, q8.2.2.2.2.2.2.1, q8.2.2.2.2.2.2.2.1, q8.2.2.2.2.2.2.2.2.1, q8.2.2.2.2.2.2.2.2.2.1, q8.2.2.2.2.2.2.2.2.2.2.1, q8.2.2.2.2.2.2.2.2.2.2.2)
          else
            some ((-3), h_solved, h_few, h_sum, h_min, hn1, hn2, hn3, d_seed, d_min, d_gue, d_src, d_lif)
abbrev rmX10_day : Room := { frames := 6, cells := 3, slots := 57344, locals := 142 }
set_option maxHeartbeats 4000000 in
set_option maxRecDepth 100000 in
theorem c_X10_day {l : Launch} {D : va_G} {g : Nat → ClassId} {N : Nat} {ad : Nat → Nat} {C : Nat → va_E} {sz : Nat} {t_there : Int32} {t_lift : Int32} {t_none : Int32} {t_down : Nat → Int32} {t_pac : Nat → Int32} {t_lik : Nat → Int32} {t_wy : Nat → Int32} {t_wn : Nat → Int32} {w_src : Int32} {w_over : Nat → Int32} {h_solved : Int32} {hn1 : Nat} {h_few : Nat → Int32} {hn2 : Nat} {h_sum : Nat → Int32} {hn3 : Nat} {h_min : Nat → Int32} {d_seed : Int32} {d_min : Int32} {d_gue : Int32} {d_src : Int32} {d_lif : Int32} {p0 : Int32} {p1 : Int32} {p2 : Int32} {rr : Int32 × Int32 × (Nat → Int32) × (Nat → Int32) × (Nat → Int32) × Nat × Nat × Nat × Int32 × Int32 × Int32 × Int32 × Int32} (hN : 86 ≤ N) (hI : Inj N ad) (h0 : C 0 = .inr (10, [.ref (ad 1), .ref (ad 5), .ref (ad 19), .ref (ad 21), .ref (ad 60), .ref (ad 77), .ref (ad 81), .ref (ad 84), .ref (ad 85)])) (h5 : C 5 = .inr (7, [.ref (ad 6), .ref (ad 7), .ref (ad 8), .ref (ad 9), .ref (ad 10), .ref (ad 11), .ref (ad 12), .ref (ad 13), .ref (ad 14), .ref (ad 15), .ref (ad 16), .ref (ad 17), .ref (ad 18), .int t_there, .int t_lift, .int t_none])) (h6 : C 6 = aI g 12 t_down) (h8 : C 8 = aI g 12 t_pac) (h11 : C 11 = aI g 12 t_lik) (h17 : C 17 = aI g 4 t_wy) (h18 : C 18 = aI g 4 t_wn) (h19 : C 19 = .inr (9, [.ref (ad 5), .ref (ad 20), .int w_src])) (h20 : C 20 = aI g 12 w_over) (h77 : C 77 = .inr (2, [.ref (ad 5), .ref (ad 19), .ref (ad 78), .ref (ad 79), .ref (ad 80), .int h_solved])) (h78 : C 78 = aI g hn1 h_few) (h79 : C 79 = aI g hn2 h_sum) (h80 : C 80 = aI g hn3 h_min) (h84 : C 84 = .inr (0, [.ref (ad 5), .ref (ad 19), .ref (ad 77), .int d_seed, .int d_min, .int d_gue, .int d_src, .int d_lif])) (hf : f_X10_day p0 p1 p2 t_down t_pac t_lik t_wy t_wn t_lift w_src w_over h_solved h_few h_sum h_min hn1 hn2 hn3 d_seed d_min d_gue d_src d_lif = some rr) : Met l yX10_day wsX10_day rmX10_day (PcW D g N ad C sz [.ref (ad 0), .int p0, .int p1, .int p2]) (QiA D N ad sz tP rr.1 (fun ad' C' => (∀ i : Nat, i ≠ 78 → i ≠ 79 → i ≠ 80 → ad' i = ad i) ∧ (∀ i : Nat, i ≠ 77 ∧ i ≠ 78 ∧ i ≠ 79 ∧ i ≠ 80 ∧ i ≠ 84 → C' i = C i) ∧ (C' 77 = .inr (2, [.ref (ad' 5), .ref (ad' 19), .ref (ad' 78), .ref (ad' 79), .ref (ad' 80), .int rr.2.1])) ∧ (C' 78 = aI g rr.2.2.2.2.2.1 rr.2.2.1) ∧ (C' 79 = aI g rr.2.2.2.2.2.2.1 rr.2.2.2.1) ∧ (C' 80 = aI g rr.2.2.2.2.2.2.2.1 rr.2.2.2.2.1) ∧ (C' 84 = .inr (0, [.ref (ad' 5), .ref (ad' 19), .ref (ad' 77), .int rr.2.2.2.2.2.2.2.2.1, .int rr.2.2.2.2.2.2.2.2.2.1, .int rr.2.2.2.2.2.2.2.2.2.2.1, .int rr.2.2.2.2.2.2.2.2.2.2.2.1, .int rr.2.2.2.2.2.2.2.2.2.2.2.2])))) 3 57344 (Aw N ad sz) := by
  refine Met.ofW (cc := cX10_day) (maxL := 4) (ret := (some .int)) (by decide) rfl ?_
  intro p e s m args below meth c s₁ B hml hv
  obtain ⟨hav, hsz, hK, hP⟩ := hv
  subst hsz
  have hx := B.exec
  have hb := B.bytes
  have hr := B.returns
  have hts := atoms_spec (ws := wsX10_day) B.pre
  have hown : s.vm.findClass RX10 = some m.cls := findClass_of_methodNamed B.named
  have hlocks := B.notSynchronized
  generalize hQ : MQ below (QiA D N ad s.heap.size tP rr.1 (fun ad' C' => (∀ i : Nat, i ≠ 78 → i ≠ 79 → i ≠ 80 → ad' i = ad i) ∧ (∀ i : Nat, i ≠ 77 ∧ i ≠ 78 ∧ i ≠ 79 ∧ i ≠ 80 ∧ i ≠ 84 → C' i = C i) ∧ (C' 77 = .inr (2, [.ref (ad' 5), .ref (ad' 19), .ref (ad' 78), .ref (ad' 79), .ref (ad' 80), .int rr.2.1])) ∧ (C' 78 = aI g rr.2.2.2.2.2.1 rr.2.2.1) ∧ (C' 79 = aI g rr.2.2.2.2.2.2.1 rr.2.2.2.1) ∧ (C' 80 = aI g rr.2.2.2.2.2.2.2.1 rr.2.2.2.2.1) ∧ (C' 84 = .inr (0, [.ref (ad' 5), .ref (ad' 19), .ref (ad' 77), .int rr.2.2.2.2.2.2.2.2.1, .int rr.2.2.2.2.2.2.2.2.2.1, .int rr.2.2.2.2.2.2.2.2.2.2.1, .int rr.2.2.2.2.2.2.2.2.2.2.2.1, .int rr.2.2.2.2.2.2.2.2.2.2.2.2])))) args s 3 57344 (Aw N ad s.heap.size) = QQ
  obtain ⟨ad0, had0⟩ : ∃ z : Nat → Nat, z = ad := ⟨_, rfl⟩
  rw [← had0] at hQ
  have hadT : ∀ i : Nat, i ≠ 78 → i ≠ 79 → i ≠ 80 → ad i = ad0 i := fun i _ _ _ => by rw [had0]
  have hS : va_S (Aw N ad0 s.heap.size) s.heap s.heap [] := va_S.rf
  have hA : ∀ q, s.heap.size ≤ q → (Aw N ad0 s.heap.size) q := fun q h => Or.inr h
  have hAd : ∀ j : Nat, j < N → (Aw N ad0 s.heap.size) (ad j) := fun j h => Or.inl ⟨j, h, by rw [had0]⟩
  obtain ⟨C0, hC0⟩ : ∃ C0 : Nat → va_E, C0 = C := ⟨_, rfl⟩
  have hag : ∀ i : Nat, i ≠ 77 ∧ i ≠ 78 ∧ i ≠ 79 ∧ i ≠ 80 ∧ i ≠ 84 → C i = C0 i := fun i _ => by rw [hC0]
  rw [← hC0] at hQ
  have k0 := hts (.constant RX10 300 (65536)) (List.mem_of_getElem? (i := 1) rfl)
  have k1 := hts (.fieldLink RX10 28 "UpDrain" "ways" "LUpDrain$Ways;") (List.mem_of_getElem? (i := 2) rfl)
  have nX10 : ∀ w ∈ u_ws RX10 TX10 9, w ∈ wsX10_day := fun _ h => List.mem_cons_of_mem _ (List.mem_append_left _ (List.mem_append_left _ (List.mem_append_left _ (List.mem_append_left _ (List.mem_append_right _ h)))))
  have k3 := nf_55 (A := args) hK
  have nX9 : ∀ w ∈ u_ws RX9 TX9 3, w ∈ wsX10_day := fun _ h => List.mem_cons_of_mem _ (List.mem_append_left _ (List.mem_append_left _ (List.mem_append_left _ (List.mem_append_right _ h))))
  have k5 := hts (.fieldLink RX10 69 "UpDrain" "aDay" "LUpDrain$DayWalk;") (List.mem_of_getElem? (i := 3) rfl)
  have k6 := nf_73 (A := args) hK
  have nX0 : ∀ w ∈ u_ws RX0 TX0 8, w ∈ wsX10_day := fun _ h => List.mem_cons_of_mem _ (List.mem_append_left _ (List.mem_append_left _ (List.mem_append_right _ h)))
  have k8 := nf_74 (A := args) hK
  have k9 := nf_75 (A := args) hK
  have k10 := nf_76 (A := args) hK
  have hE := lg_entry_eq m [.ref (ad 0), .int p0, .int p1, .int p2] 4
  rw [← hav] at hE
  rw [hE]
  have hl := lv_entry [.ref (ad 0), .int p0, .int p1, .int p2] (n := 4) (Nat.le_of_ble_eq_true rfl)
  generalize (lg_sl [.ref (ad 0), .int p0, .int p1, .int p2] ++ List.replicate (4 - (lg_sl [.ref (ad 0), .int p0, .int p1, .int p2]).length) Slot.unset).toArray = ls at hl ⊢
  have hl : lv_has ls 4 [(0, .ref (ad 0)), (1, .int p0), (2, .int p1), (3, .int p2)] := hl
  clear hE
  unfold f_X10_day at hf
  suffices hgo : ∀ (H : Heap) (locs : List Loc), va_P D vwCl (wd N ad C) H → va_S (Aw N ad0 s.heap.size) s.heap H locs → W p l e (headSpec wsX10_day rmX10_day).room s m args below meth c H locs 0 0 QQ (F0 m 0 ls []) from hgo s.heap [] hP hS
  clear hS hP
  intro H locs hP hS
  refine lv_iload_n hx hb dX10_day_0 rfl (lv_at hl 2 rfl) ?_
  obtain ⟨q1, hq1, hf⟩ := bd_e hf
  refine k_iR (va_runS (As := [.int p1]) (rest := []) ⟨hx, hb, hml, hown, hts⟩ (c_X10_isCup (l := l) (sz := H.size) (p0 := p1) hq1) (va_cwS 1 hts gX10_day_X10_isCup rfl rfl rfl (by decide +kernel) ⟨Nat.le_of_ble_eq_true rfl, Nat.le_of_ble_eq_true rfl⟩) preS0 rfl rfl hl.1 rfl (lv_room (Nat.le_of_ble_eq_true rfl)) dX10_day_1 ⟨Nat.le_of_ble_eq_true rfl, Nat.le_of_ble_eq_true rfl⟩) hA hP hS (fun H locs hP hS hbz_q1 => ?_)
  refine lv_if_ne (tgt := 10) hx hb dX10_day_4 (by decide) (fun c2 => ?_) (fun c2 => ?_)
  · have hf := ie_e c2 hf
    refine lv_iload_n hx hb dX10_day_10 rfl (lv_at hl 1 rfl) ?_
    refine lv_if_lt (tgt := 30) hx hb dX10_day_11 (by decide) (fun c3 => ?_) (fun c3 => ?_)
    · have hf := it_e c3 hf
      refine lv_bipush (v := (-3)) hx hb dX10_day_30 (by decide) ?_
      obtain rfl := Option.some.inj hf
      rw [← hQ]
      refine W.widen (k := 3) (n := 57344) (by omega) (by omega) ?_
      exact e_iA hx hb hr rfl (tP_i _) hI hAd hP hS ⟨hadT, hag, h77, h78, h79, h80, h84⟩ hlocks dX10_day_32
    · have hf := ie_e c3 hf
      refine lv_iload_n hx hb dX10_day_14 rfl (lv_at hl 1 rfl) ?_
      refine lv_ldcw (own := RX10) hx hb hown k0 dX10_day_15 ?_
      refine lv_icmp_ge (tgt := 30) hx hb dX10_day_18 (by decide) (fun c4 => ?_) (fun c4 => ?_)
      · have hf := it_e c4 hf
        refine lv_bipush (v := (-3)) hx hb dX10_day_30 (by decide) ?_
        obtain rfl := Option.some.inj hf
        rw [← hQ]
        refine W.widen (k := 3) (n := 57344) (by omega) (by omega) ?_
        exact e_iA hx hb hr rfl (tP_i _) hI hAd hP hS ⟨hadT, hag, h77, h78, h79, h80, h84⟩ hlocks dX10_day_32
      · have hf := ie_e c4 hf
        refine lv_iload_n hx hb dX10_day_21 rfl (lv_at hl 3 rfl) ?_
        refine lv_if_lt (tgt := 30) hx hb dX10_day_22 (by decide) (fun c5 => ?_) (fun c5 => ?_)
        · have hf := it_e c5 hf
          refine lv_bipush (v := (-3)) hx hb dX10_day_30 (by decide) ?_
          obtain rfl := Option.some.inj hf
          rw [← hQ]
          refine W.widen (k := 3) (n := 57344) (by omega) (by omega) ?_
          exact e_iA hx hb hr rfl (tP_i _) hI hAd hP hS ⟨hadT, hag, h77, h78, h79, h80, h84⟩ hlocks dX10_day_32
        · have hf := ie_e c5 hf
          refine lv_iload_n hx hb dX10_day_25 rfl (lv_at hl 3 rfl) ?_
          refine lv_iconst (v := 3) hx hb dX10_day_26 (by decide) ?_
          refine lv_icmp_le (tgt := 33) hx hb dX10_day_27 (by decide) (fun c6 => ?_) (fun c6 => ?_)
          · have hf := it_e c6 hf
            refine lv_aload_n hx hb dX10_day_33 rfl (lv_at hl 0 rfl) ?_
            refine r_get (own := RX10) (T := TX10) (n := 9) (ci := 10) (v := .ref (ad 19)) hx hb hts nX10 hown hK hP (by omega) h0 rfl 2 (by decide) k1 rfl dX10_day_34 ?_
            refine r_getN (own := RX10) (T := TX9) (n := 3) (ci := 9) (v := .int w_src) hx hb hts nX9 hown hK hP (by omega) h19 rfl 2 (by decide) k3 rfl dX10_day_37 ?_
            refine lv_if_ne (tgt := 46) hx hb dX10_day_40 (by decide) (fun c7 => ?_) (fun c7 => ?_)
            · have hf := ie_e c7 hf
              refine lv_aload_n hx hb dX10_day_46 rfl (lv_at hl 0 rfl) ?_
              refine r_get (own := RX10) (T := TX10) (n := 9) (ci := 10) (v := .ref (ad 84)) hx hb hts nX10 hown hK hP (by omega) h0 rfl 7 (by decide) k5 rfl dX10_day_47 ?_
              refine lv_iload_n hx hb dX10_day_50 rfl (lv_at hl 1 rfl) ?_
              refine lv_iload_n hx hb dX10_day_51 rfl (lv_at hl 2 rfl) ?_
              obtain ⟨q8, hq8, hf⟩ := bd_e hf
              refine k_vA (va_runV (C := RX0) (As := [.int p0, .int p1]) (rest := []) ⟨hx, hb, hml, hown, hts⟩ (c_X0_go (l := l) (sz := H.size) (p0 := p0) (p1 := p1) hN hI h5 h6 h8 h11 h17 h18 h19 h20 h77 h78 h79 h80 h84 hq8) (cwV 2 hts gX10_day_X0_go rfl rfl rfl (by decide +kernel) ⟨Nat.le_of_ble_eq_true rfl, Nat.le_of_ble_eq_true rfl⟩) (preV_of hK hP (by omega) h84 rfl) rfl rfl hl.1 rfl (lv_room (Nat.le_of_ble_eq_true rfl)) dX10_day_52 ⟨Nat.le_of_ble_eq_true rfl, Nat.le_of_ble_eq_true rfl⟩) hA hAd hS (fun ad C H locs hI hAd hP hS hpo => ?_)
              refine W.widen (k := 3) (n := 57344) (Nat.le_refl _) (Nat.le_refl _) ?_
              obtain ⟨had, he, h77, h78, h79, h80, h84⟩ := hpo
              have hadT : ∀ i : Nat, i ≠ 78 → i ≠ 79 → i ≠ 80 → ad i = ad0 i := fun i h1 h2 h3 => (had i h1 h2 h3).trans (hadT i h1 h2 h3)
              have hag : ∀ i : Nat, i ≠ 77 ∧ i ≠ 78 ∧ i ≠ 79 ∧ i ≠ 80 ∧ i ≠ 84 → C i = C0 i := fun i h => (he i (by omega)).trans (hag i h)
              have h0 : C 0 = .inr (10, [.ref (ad 1), .ref (ad 5), .ref (ad 19), .ref (ad 21), .ref (ad 60), .ref (ad 77), .ref (ad 81), .ref (ad 84), .ref (ad 85)]) := by rw [had 1 (by decide) (by decide) (by decide), had 5 (by decide) (by decide) (by decide), had 19 (by decide) (by decide) (by decide), had 21 (by decide) (by decide) (by decide), had 60 (by decide) (by decide) (by decide), had 77 (by decide) (by decide) (by decide), had 81 (by decide) (by decide) (by decide), had 84 (by decide) (by decide) (by decide), had 85 (by decide) (by decide) (by decide)]; exact (he 0 (by decide)).trans h0
              have h5 : C 5 = .inr (7, [.ref (ad 6), .ref (ad 7), .ref (ad 8), .ref (ad 9), .ref (ad 10), .ref (ad 11), .ref (ad 12), .ref (ad 13), .ref (ad 14), .ref (ad 15), .ref (ad 16), .ref (ad 17), .ref (ad 18), .int t_there, .int t_lift, .int t_none]) := by rw [had 6 (by decide) (by decide) (by decide), had 7 (by decide) (by decide) (by decide), had 8 (by decide) (by decide) (by decide), had 9 (by decide) (by decide) (by decide), had 10 (by decide) (by decide) (by decide), had 11 (by decide) (by decide) (by decide), had 12 (by decide) (by decide) (by decide), had 13 (by decide) (by decide) (by decide), had 14 (by decide) (by decide) (by decide), had 15 (by decide) (by decide) (by decide), had 16 (by decide) (by decide) (by decide), had 17 (by decide) (by decide) (by decide), had 18 (by decide) (by decide) (by decide)]; exact (he 5 (by decide)).trans h5
              have h6 := (he 6 (by decide)).trans h6
              have h8 := (he 8 (by decide)).trans h8
              have h11 := (he 11 (by decide)).trans h11
              have h17 := (he 17 (by decide)).trans h17
              have h18 := (he 18 (by decide)).trans h18
              have h19 : C 19 = .inr (9, [.ref (ad 5), .ref (ad 20), .int w_src]) := by rw [had 5 (by decide) (by decide) (by decide), had 20 (by decide) (by decide) (by decide)]; exact (he 19 (by decide)).trans h19
              have h20 := (he 20 (by decide)).trans h20
              have hl : lv_has ls 4 [(0, .ref (ad 0)), (1, .int p0), (2, .int p1), (3, .int p2)] := by rw [had 0 (by decide) (by decide) (by decide)]; exact hl
              refine lv_iload_n hx hb dX10_day_55 rfl (lv_at hl 3 rfl) ?_
              by_cases c9 : p2 = 0
              · have hf := it_e c9 hf
                refine lv_tableIn (tgt := 84) hx hb dX10_day_56 (by rw [c9]; decide) (by rw [c9]; decide) (by rw [c9]; rfl) (by decide) ?_
                refine lv_aload_n hx hb dX10_day_84 rfl (lv_at hl 0 rfl) ?_
                refine r_get (own := RX10) (T := TX10) (n := 9) (ci := 10) (v := .ref (ad 84)) hx hb hts nX10 hown hK hP (by omega) h0 rfl 7 (by decide) k5 rfl dX10_day_85 ?_
                refine r_getN (own := RX10) (T := TX0) (n := 8) (ci := 0) (v := .int q8.2.2.2.2.2.2.2.2.1) hx hb hts nX0 hown hK hP (by omega) h84 rfl 4 (by decide) k6 rfl dX10_day_88 ?_
                obtain rfl := Option.some.inj hf
                rw [← hQ]
                exact e_iA hx hb hr rfl (tP_i _) hI hAd hP hS ⟨hadT, hag, h77, h78, h79, h80, h84⟩ hlocks dX10_day_91
              have hf := ie_e c9 hf
              by_cases c10 : p2 = 1
              · have hf := it_e c10 hf
                refine lv_tableIn (tgt := 92) hx hb dX10_day_56 (by rw [c10]; decide) (by rw [c10]; decide) (by rw [c10]; rfl) (by decide) ?_
                refine lv_aload_n hx hb dX10_day_92 rfl (lv_at hl 0 rfl) ?_
                refine r_get (own := RX10) (T := TX10) (n := 9) (ci := 10) (v := .ref (ad 84)) hx hb hts nX10 hown hK hP (by omega) h0 rfl 7 (by decide) k5 rfl dX10_day_93 ?_
                refine r_getN (own := RX10) (T := TX0) (n := 8) (ci := 0) (v := .int q8.2.2.2.2.2.2.2.2.2.1) hx hb hts nX0 hown hK hP (by omega) h84 rfl 5 (by decide) k8 rfl dX10_day_96 ?_
                obtain rfl := Option.some.inj hf
                rw [← hQ]
                exact e_iA hx hb hr rfl (tP_i _) hI hAd hP hS ⟨hadT, hag, h77, h78, h79, h80, h84⟩ hlocks dX10_day_99
              have hf := ie_e c10 hf
              by_cases c11 : p2 = 2
              · have hf := it_e c11 hf
                refine lv_tableIn (tgt := 100) hx hb dX10_day_56 (by rw [c11]; decide) (by rw [c11]; decide) (by rw [c11]; rfl) (by decide) ?_
                refine lv_aload_n hx hb dX10_day_100 rfl (lv_at hl 0 rfl) ?_
                refine r_get (own := RX10) (T := TX10) (n := 9) (ci := 10) (v := .ref (ad 84)) hx hb hts nX10 hown hK hP (by omega) h0 rfl 7 (by decide) k5 rfl dX10_day_101 ?_
                refine r_getN (own := RX10) (T := TX0) (n := 8) (ci := 0) (v := .int q8.2.2.2.2.2.2.2.2.2.2.1) hx hb hts nX0 hown hK hP (by omega) h84 rfl 6 (by decide) k9 rfl dX10_day_104 ?_
                obtain rfl := Option.some.inj hf
                rw [← hQ]
                exact e_iA hx hb hr rfl (tP_i _) hI hAd hP hS ⟨hadT, hag, h77, h78, h79, h80, h84⟩ hlocks dX10_day_107
              have hf := ie_e c11 hf
              have hsw : Int32.toInt p2 < 0 ∨ 2 < Int32.toInt p2 := by
                have qc9 := ne_toInt c9
                rw [show Int32.toInt 0 = 0 from rfl] at qc9
                have qc10 := ne_toInt c10
                rw [show Int32.toInt 1 = 1 from rfl] at qc10
                have qc11 := ne_toInt c11
                rw [show Int32.toInt 2 = 2 from rfl] at qc11
                omega
              refine lv_tableOut (tgt := 108) hx hb dX10_day_56 hsw (by decide) ?_
              refine lv_aload_n hx hb dX10_day_108 rfl (lv_at hl 0 rfl) ?_
              refine r_get (own := RX10) (T := TX10) (n := 9) (ci := 10) (v := .ref (ad 84)) hx hb hts nX10 hown hK hP (by omega) h0 rfl 7 (by decide) k5 rfl dX10_day_109 ?_
              refine r_getN (own := RX10) (T := TX0) (n := 8) (ci := 0) (v := .int q8.2.2.2.2.2.2.2.2.2.2.2) hx hb hts nX0 hown hK hP (by omega) h84 rfl 7 (by decide) k10 rfl dX10_day_112 ?_
              obtain rfl := Option.some.inj hf
              rw [← hQ]
              exact e_iA hx hb hr rfl (tP_i _) hI hAd hP hS ⟨hadT, hag, h77, h78, h79, h80, h84⟩ hlocks dX10_day_115
            · have hf := it_e c7 hf
              refine lv_bipush (v := (-4)) hx hb dX10_day_43 (by decide) ?_
              obtain rfl := Option.some.inj hf
              rw [← hQ]
              refine W.widen (k := 3) (n := 57344) (by omega) (by omega) ?_
              exact e_iA hx hb hr rfl (tP_i _) hI hAd hP hS ⟨hadT, hag, h77, h78, h79, h80, h84⟩ hlocks dX10_day_45
          · have hf := ie_e c6 hf
            refine lv_bipush (v := (-3)) hx hb dX10_day_30 (by decide) ?_
            obtain rfl := Option.some.inj hf
            rw [← hQ]
            refine W.widen (k := 3) (n := 57344) (by omega) (by omega) ?_
            exact e_iA hx hb hr rfl (tP_i _) hI hAd hP hS ⟨hadT, hag, h77, h78, h79, h80, h84⟩ hlocks dX10_day_32
  · have hf := it_e c2 hf
    refine lv_bipush (v := (-2)) hx hb dX10_day_7 (by decide) ?_
    obtain rfl := Option.some.inj hf
    rw [← hQ]
    refine W.widen (k := 3) (n := 57344) (by omega) (by omega) ?_
    exact e_iA hx hb hr rfl (tP_i _) hI hAd hP hS ⟨hadT, hag, h77, h78, h79, h80, h84⟩ hlocks dX10_day_9

def f_X10_count (p0 : Int32) (tx_len : Int32) (t_pac : Nat → Int32) (t_there : Int32) (t_lift : Int32) (t_none : Int32) (w_src : Int32) (th_size : Int32) : Option (Int32) :=
  if p0 = 0 then
    (f_J6_bitCount_0f7a4 t_there).bind fun q2 =>
    some (q2)
  else if p0 = 1 then
    some (tx_len)
  else if p0 = 2 then
    (f_J6_bitCount_0f7a4 w_src).bind fun q5 =>
    some (q5)
  else if p0 = 3 then
    some (th_size)
  else if p0 = 4 then
    some (t_lift)
  else if p0 = 5 then
    some (t_none)
  else if p0 = 6 then
    (f_X9_allPaces t_pac t_there).bind fun q10 =>
    some (q10)
  else 
    some ((-3))
abbrev rmX10_count : Room := { frames := 2, cells := 0, slots := 0, locals := 43 }
set_option maxHeartbeats 4000000 in
set_option maxRecDepth 100000 in
theorem c_X10_count {l : Launch} {D : va_G} {g : Nat → ClassId} {N : Nat} {ad : Nat → Nat} {C : Nat → va_E} {sz : Nat} {tx_len : Int32} {tx_lines : Int32} {tx_ts : Int32} {tx_te : Int32} {t_there : Int32} {t_lift : Int32} {t_none : Int32} {t_pac : Nat → Int32} {w_src : Int32} {th_none : Int64} {th_all1 : Int64} {th_all2 : Int64} {th_k1 : Int32} {th_k2 : Int32} {th_size : Int32} {p0 : Int32} {rr : Int32} (hN : 86 ≤ N) (h0 : C 0 = .inr (10, [.ref (ad 1), .ref (ad 5), .ref (ad 19), .ref (ad 21), .ref (ad 60), .ref (ad 77), .ref (ad 81), .ref (ad 84), .ref (ad 85)])) (h1 : C 1 = .inr (5, [.ref (ad 2), .ref (ad 3), .ref (ad 4), .int tx_len, .int tx_lines, .int tx_ts, .int tx_te])) (h5 : C 5 = .inr (7, [.ref (ad 6), .ref (ad 7), .ref (ad 8), .ref (ad 9), .ref (ad 10), .ref (ad 11), .ref (ad 12), .ref (ad 13), .ref (ad 14), .ref (ad 15), .ref (ad 16), .ref (ad 17), .ref (ad 18), .int t_there, .int t_lift, .int t_none])) (h8 : C 8 = aI g 12 t_pac) (h19 : C 19 = .inr (9, [.ref (ad 5), .ref (ad 20), .int w_src])) (h60 : C 60 = .inr (6, [.ref (ad 5), .ref (ad 19), .ref (ad 21), .ref (ad 61), .ref (ad 62), .ref (ad 65), .ref (ad 66), .long th_none, .long th_all1, .long th_all2, .int th_k1, .int th_k2, .int th_size])) (hf : f_X10_count p0 tx_len t_pac t_there t_lift t_none w_src th_size = some rr) : Met l yX10_count wsX10_count rmX10_count (PcW D g N ad C sz [.ref (ad 0), .int p0]) (QiR sz tP rr) 0 0 (An sz) := by
  refine Met.ofW (cc := cX10_count) (maxL := 2) (ret := (some .int)) (by decide) rfl ?_
  intro p e s m args below meth c s₁ B hml hv
  obtain ⟨hav, hsz, hK, hP⟩ := hv
  subst hsz
  have hx := B.exec
  have hb := B.bytes
  have hr := B.returns
  have hts := atoms_spec (ws := wsX10_count) B.pre
  have hown : s.vm.findClass RX10 = some m.cls := findClass_of_methodNamed B.named
  have hlocks := B.notSynchronized
  generalize hQ : MQ below (QiR s.heap.size tP rr) args s 0 0 (An s.heap.size) = QQ
  have hS : va_S (An s.heap.size) s.heap s.heap [] := va_S.rf
  have hA : ∀ q, s.heap.size ≤ q → (An s.heap.size) q := fun q h => h
  have k0 := hts (.fieldLink RX10 19 "UpDrain" "plan" "LUpDrain$Town;") (List.mem_of_getElem? (i := 1) rfl)
  have nX10 : ∀ w ∈ u_ws RX10 TX10 9, w ∈ wsX10_count := fun _ h => List.mem_cons_of_mem _ (List.mem_append_left _ (List.mem_append_left _ (List.mem_append_left _ (List.mem_append_left _ (List.mem_append_right _ h)))))
  have k2 := nf_40 (A := args) hK
  have nX7 : ∀ w ∈ u_ws RX7 TX7 16, w ∈ wsX10_count := fun _ h => List.mem_cons_of_mem _ (List.mem_append_left _ (List.mem_append_left _ (List.mem_append_left _ (List.mem_append_right _ h))))
  have k4 := hts (.fieldLink RX10 10 "UpDrain" "text" "LUpDrain$Text;") (List.mem_of_getElem? (i := 2) rfl)
  have k5 := nf_2 (A := args) hK
  have nX5 : ∀ w ∈ u_ws RX5 TX5 7, w ∈ wsX10_count := fun _ h => List.mem_cons_of_mem _ (List.mem_append_left _ (List.mem_append_left _ (List.mem_append_right _ h)))
  have k7 := hts (.fieldLink RX10 28 "UpDrain" "ways" "LUpDrain$Ways;") (List.mem_of_getElem? (i := 3) rfl)
  have k8 := nf_55 (A := args) hK
  have nX9 : ∀ w ∈ u_ws RX9 TX9 3, w ∈ wsX10_count := fun _ h => List.mem_cons_of_mem _ (List.mem_append_left _ (List.mem_append_right _ h))
  have k10 := hts (.fieldLink RX10 46 "UpDrain" "thoughts" "LUpDrain$Thoughts;") (List.mem_of_getElem? (i := 4) rfl)
  have k11 := nf_69 (A := args) hK
  have nX6 : ∀ w ∈ u_ws RX6 TX6 13, w ∈ wsX10_count := fun _ h => List.mem_cons_of_mem _ (List.mem_append_right _ h)
  have k13 := nf_43 (A := args) hK
  have k14 := nf_45 (A := args) hK
  have hE := lg_entry_eq m [.ref (ad 0), .int p0] 2
  rw [← hav] at hE
  rw [hE]
  have hl := lv_entry [.ref (ad 0), .int p0] (n := 2) (Nat.le_of_ble_eq_true rfl)
  generalize (lg_sl [.ref (ad 0), .int p0] ++ List.replicate (2 - (lg_sl [.ref (ad 0), .int p0]).length) Slot.unset).toArray = ls at hl ⊢
  have hl : lv_has ls 2 [(0, .ref (ad 0)), (1, .int p0)] := hl
  clear hE
  unfold f_X10_count at hf
  suffices hgo : ∀ (H : Heap) (locs : List Loc), va_P D vwCl (wd N ad C) H → va_S (An s.heap.size) s.heap H locs → W p l e (headSpec wsX10_count rmX10_count).room s m args below meth c H locs 0 0 QQ (F0 m 0 ls []) from hgo s.heap [] hP hS
  clear hS hP
  intro H locs hP hS
  refine lv_iload_n hx hb dX10_count_0 rfl (lv_at hl 1 rfl) ?_
  by_cases c1 : p0 = 0
  · have hf := it_e c1 hf
    refine lv_tableIn (tgt := 44) hx hb dX10_count_1 (by rw [c1]; decide) (by rw [c1]; decide) (by rw [c1]; rfl) (by decide) ?_
    refine lv_aload_n hx hb dX10_count_44 rfl (lv_at hl 0 rfl) ?_
    refine r_get (own := RX10) (T := TX10) (n := 9) (ci := 10) (v := .ref (ad 5)) hx hb hts nX10 hown hK hP (by omega) h0 rfl 1 (by decide) k0 rfl dX10_count_45 ?_
    refine r_getN (own := RX10) (T := TX7) (n := 16) (ci := 7) (v := .int t_there) hx hb hts nX7 hown hK hP (by omega) h5 rfl 13 (by decide) k2 rfl dX10_count_48 ?_
    obtain ⟨q2, hq2, hf⟩ := bd_e hf
    refine k_iR (va_runS (As := [.int t_there]) (rest := []) ⟨hx, hb, hml, hown, hts⟩ (c_J6_bitCount_0f7a4 (l := l) (sz := H.size) (p0 := t_there) hq2) (va_cwS 1 hts gX10_count_J6_bitCount_0f7a4 rfl rfl rfl (by decide +kernel) ⟨Nat.le_of_ble_eq_true rfl, Nat.le_of_ble_eq_true rfl⟩) preS0 rfl rfl hl.1 rfl (lv_room (Nat.le_of_ble_eq_true rfl)) dX10_count_51 ⟨Nat.le_of_ble_eq_true rfl, Nat.le_of_ble_eq_true rfl⟩) hA hP hS (fun H locs hP hS hbz_q2 => ?_)
    obtain rfl := Option.some.inj hf
    rw [← hQ]
    exact e_iR hx hb hr rfl (tP_i _) hS hlocks dX10_count_54
  have hf := ie_e c1 hf
  by_cases c3 : p0 = 1
  · have hf := it_e c3 hf
    refine lv_tableIn (tgt := 55) hx hb dX10_count_1 (by rw [c3]; decide) (by rw [c3]; decide) (by rw [c3]; rfl) (by decide) ?_
    refine lv_aload_n hx hb dX10_count_55 rfl (lv_at hl 0 rfl) ?_
    refine r_get (own := RX10) (T := TX10) (n := 9) (ci := 10) (v := .ref (ad 1)) hx hb hts nX10 hown hK hP (by omega) h0 rfl 0 (by decide) k4 rfl dX10_count_56 ?_
    refine r_getN (own := RX10) (T := TX5) (n := 7) (ci := 5) (v := .int tx_len) hx hb hts nX5 hown hK hP (by omega) h1 rfl 3 (by decide) k5 rfl dX10_count_59 ?_
    obtain rfl := Option.some.inj hf
    rw [← hQ]
    exact e_iR hx hb hr rfl (tP_i _) hS hlocks dX10_count_62
  have hf := ie_e c3 hf
  by_cases c4 : p0 = 2
  · have hf := it_e c4 hf
    refine lv_tableIn (tgt := 63) hx hb dX10_count_1 (by rw [c4]; decide) (by rw [c4]; decide) (by rw [c4]; rfl) (by decide) ?_
    refine lv_aload_n hx hb dX10_count_63 rfl (lv_at hl 0 rfl) ?_
    refine r_get (own := RX10) (T := TX10) (n := 9) (ci := 10) (v := .ref (ad 19)) hx hb hts nX10 hown hK hP (by omega) h0 rfl 2 (by decide) k7 rfl dX10_count_64 ?_
    refine r_getN (own := RX10) (T := TX9) (n := 3) (ci := 9) (v := .int w_src) hx hb hts nX9 hown hK hP (by omega) h19 rfl 2 (by decide) k8 rfl dX10_count_67 ?_
    obtain ⟨q5, hq5, hf⟩ := bd_e hf
    refine k_iR (va_runS (As := [.int w_src]) (rest := []) ⟨hx, hb, hml, hown, hts⟩ (c_J6_bitCount_0f7a4 (l := l) (sz := H.size) (p0 := w_src) hq5) (va_cwS 1 hts gX10_count_J6_bitCount_0f7a4 rfl rfl rfl (by decide +kernel) ⟨Nat.le_of_ble_eq_true rfl, Nat.le_of_ble_eq_true rfl⟩) preS0 rfl rfl hl.1 rfl (lv_room (Nat.le_of_ble_eq_true rfl)) dX10_count_70 ⟨Nat.le_of_ble_eq_true rfl, Nat.le_of_ble_eq_true rfl⟩) hA hP hS (fun H locs hP hS hbz_q5 => ?_)
    obtain rfl := Option.some.inj hf
    rw [← hQ]
    exact e_iR hx hb hr rfl (tP_i _) hS hlocks dX10_count_73
  have hf := ie_e c4 hf
  by_cases c6 : p0 = 3
  · have hf := it_e c6 hf
    refine lv_tableIn (tgt := 74) hx hb dX10_count_1 (by rw [c6]; decide) (by rw [c6]; decide) (by rw [c6]; rfl) (by decide) ?_
    refine lv_aload_n hx hb dX10_count_74 rfl (lv_at hl 0 rfl) ?_
    refine r_get (own := RX10) (T := TX10) (n := 9) (ci := 10) (v := .ref (ad 60)) hx hb hts nX10 hown hK hP (by omega) h0 rfl 4 (by decide) k10 rfl dX10_count_75 ?_
    refine r_getN (own := RX10) (T := TX6) (n := 13) (ci := 6) (v := .int th_size) hx hb hts nX6 hown hK hP (by omega) h60 rfl 12 (by decide) k11 rfl dX10_count_78 ?_
    obtain rfl := Option.some.inj hf
    rw [← hQ]
    exact e_iR hx hb hr rfl (tP_i _) hS hlocks dX10_count_81
  have hf := ie_e c6 hf
  by_cases c7 : p0 = 4
  · have hf := it_e c7 hf
    refine lv_tableIn (tgt := 82) hx hb dX10_count_1 (by rw [c7]; decide) (by rw [c7]; decide) (by rw [c7]; rfl) (by decide) ?_
    refine lv_aload_n hx hb dX10_count_82 rfl (lv_at hl 0 rfl) ?_
    refine r_get (own := RX10) (T := TX10) (n := 9) (ci := 10) (v := .ref (ad 5)) hx hb hts nX10 hown hK hP (by omega) h0 rfl 1 (by decide) k0 rfl dX10_count_83 ?_
    refine r_getN (own := RX10) (T := TX7) (n := 16) (ci := 7) (v := .int t_lift) hx hb hts nX7 hown hK hP (by omega) h5 rfl 14 (by decide) k13 rfl dX10_count_86 ?_
    obtain rfl := Option.some.inj hf
    rw [← hQ]
    exact e_iR hx hb hr rfl (tP_i _) hS hlocks dX10_count_89
  have hf := ie_e c7 hf
  by_cases c8 : p0 = 5
  · have hf := it_e c8 hf
    refine lv_tableIn (tgt := 90) hx hb dX10_count_1 (by rw [c8]; decide) (by rw [c8]; decide) (by rw [c8]; rfl) (by decide) ?_
    refine lv_aload_n hx hb dX10_count_90 rfl (lv_at hl 0 rfl) ?_
    refine r_get (own := RX10) (T := TX10) (n := 9) (ci := 10) (v := .ref (ad 5)) hx hb hts nX10 hown hK hP (by omega) h0 rfl 1 (by decide) k0 rfl dX10_count_91 ?_
    refine r_getN (own := RX10) (T := TX7) (n := 16) (ci := 7) (v := .int t_none) hx hb hts nX7 hown hK hP (by omega) h5 rfl 15 (by decide) k14 rfl dX10_count_94 ?_
    obtain rfl := Option.some.inj hf
    rw [← hQ]
    exact e_iR hx hb hr rfl (tP_i _) hS hlocks dX10_count_97
  have hf := ie_e c8 hf
  by_cases c9 : p0 = 6
  · have hf := it_e c9 hf
    refine lv_tableIn (tgt := 98) hx hb dX10_count_1 (by rw [c9]; decide) (by rw [c9]; decide) (by rw [c9]; rfl) (by decide) ?_
    refine lv_aload_n hx hb dX10_count_98 rfl (lv_at hl 0 rfl) ?_
    refine r_get (own := RX10) (T := TX10) (n := 9) (ci := 10) (v := .ref (ad 19)) hx hb hts nX10 hown hK hP (by omega) h0 rfl 2 (by decide) k7 rfl dX10_count_99 ?_
    obtain ⟨q10, hq10, hf⟩ := bd_e hf
    refine k_iR (va_runV (C := RX9) (As := []) (rest := []) ⟨hx, hb, hml, hown, hts⟩ (c_X9_allPaces (l := l) (sz := H.size)  hN h5 h8 h19 hq10) (cwV 0 hts gX10_count_X9_allPaces rfl rfl rfl (by decide +kernel) ⟨Nat.le_of_ble_eq_true rfl, Nat.le_of_ble_eq_true rfl⟩) (preV_of hK hP (by omega) h19 rfl) rfl rfl hl.1 rfl (lv_room (Nat.le_of_ble_eq_true rfl)) dX10_count_102 ⟨Nat.le_of_ble_eq_true rfl, Nat.le_of_ble_eq_true rfl⟩) hA hP hS (fun H locs hP hS hbz_q10 => ?_)
    obtain rfl := Option.some.inj hf
    rw [← hQ]
    exact e_iR hx hb hr rfl (tP_i _) hS hlocks dX10_count_105
  have hf := ie_e c9 hf
  have hsw : Int32.toInt p0 < 0 ∨ 6 < Int32.toInt p0 := by
    have qc1 := ne_toInt c1
    rw [show Int32.toInt 0 = 0 from rfl] at qc1
    have qc3 := ne_toInt c3
    rw [show Int32.toInt 1 = 1 from rfl] at qc3
    have qc4 := ne_toInt c4
    rw [show Int32.toInt 2 = 2 from rfl] at qc4
    have qc6 := ne_toInt c6
    rw [show Int32.toInt 3 = 3 from rfl] at qc6
    have qc7 := ne_toInt c7
    rw [show Int32.toInt 4 = 4 from rfl] at qc7
    have qc8 := ne_toInt c8
    rw [show Int32.toInt 5 = 5 from rfl] at qc8
    have qc9 := ne_toInt c9
    rw [show Int32.toInt 6 = 6 from rfl] at qc9
    omega
  refine lv_tableOut (tgt := 106) hx hb dX10_count_1 hsw (by decide) ?_
  refine lv_bipush (v := (-3)) hx hb dX10_count_106 (by decide) ?_
  obtain rfl := Option.some.inj hf
  rw [← hQ]
  exact e_iR hx hb hr rfl (tP_i _) hS hlocks dX10_count_108

