def LX11_day_83 (p1 : Int32) (m_fy : Nat → Int32) (m_fn : Nat → Int32) (m_there : Int32) (m_lift : Int32) (q9 : (Nat → Int32) × (Nat → Int32) × (Nat → Int32)) (q10 : Int32 × Int32) (ko : Int32 → Int32 → Int32 → Int32 → Int32 → Option (Int32 × (Nat → Int32) × (Nat → Int32) × (Nat → Int32) × Int32)) : Nat → Int32 → Int32 → Int32 → Int32 → Int32 → Option (Int32 × (Nat → Int32) × (Nat → Int32) × (Nat → Int32) × Int32)
  | 0, _, _, _, _, _ => none
  | n + 1, x11, x12, x13, x14, x15 =>
    (f_X11_many x11).bind fun q21 =>
    if q21 ≤ 1 then
      ko x11 x12 x13 x14 x15
    else
      (f_X11_soonLid x12 x11 q9.1 q9.2.1 q9.2.2 m_there m_lift).bind fun q23 =>
      ri q9.1 12 (q23) fun x24 =>
      (f_X11_has x24 q10.1).bind fun q26 =>
      (f_X11_draw 10 x15).bind fun q27 =>
      (if q26 = 0 then
        ri m_fy 4 (p1) fun x42 =>
        some (x42)
      else
        ri m_fn 4 (p1) fun x44 =>
        some (x44) : Option (Int32)).bind fun q28 =>
      (if q28 ≤ q27.1 then
        some (0)
      else
        some (1) : Option (Int32)).bind fun q29 =>
      ri q9.2.1 144 (((12 * x12) + q23)) fun x30 =>
      lt ((x13 + (x30 + m_lift)) : Int32) fun x32 =>
      lt (x14 + 1 : Int32) fun x33 =>
      (if q26 = q29 then
        ri q9.1 12 (q23) fun x36 =>
        some ((x11 &&& (x36 ^^^ (-1))))
      else
        ri q9.1 12 (q23) fun x38 =>
        some ((x11 &&& x38)) : Option (Int32)).bind fun q34 =>
      LX11_day_83 p1 m_fy m_fn m_there m_lift q9 q10 ko n q34 q23 x32 x33 q27.2
theorem LX11_day_83_z (p1 : Int32) (m_fy : Nat → Int32) (m_fn : Nat → Int32) (m_there : Int32) (m_lift : Int32) (q9 : (Nat → Int32) × (Nat → Int32) × (Nat → Int32)) (q10 : Int32 × Int32) (ko : Int32 → Int32 → Int32 → Int32 → Int32 → Option (Int32 × (Nat → Int32) × (Nat → Int32) × (Nat → Int32) × Int32)) (x11 : Int32) (x12 : Int32) (x13 : Int32) (x14 : Int32) (x15 : Int32) : LX11_day_83 p1 m_fy m_fn m_there m_lift q9 q10 ko 0 x11 x12 x13 x14 x15 = none := rfl
theorem LX11_day_83_s (p1 : Int32) (m_fy : Nat → Int32) (m_fn : Nat → Int32) (m_there : Int32) (m_lift : Int32) (q9 : (Nat → Int32) × (Nat → Int32) × (Nat → Int32)) (q10 : Int32 × Int32) (ko : Int32 → Int32 → Int32 → Int32 → Int32 → Option (Int32 × (Nat → Int32) × (Nat → Int32) × (Nat → Int32) × Int32)) (n : Nat) (x11 : Int32) (x12 : Int32) (x13 : Int32) (x14 : Int32) (x15 : Int32) : LX11_day_83 p1 m_fy m_fn m_there m_lift q9 q10 ko (n + 1) x11 x12 x13 x14 x15 =
    (f_X11_many x11).bind fun q21 =>
    if q21 ≤ 1 then
      ko x11 x12 x13 x14 x15
    else
      (f_X11_soonLid x12 x11 q9.1 q9.2.1 q9.2.2 m_there m_lift).bind fun q23 =>
      ri q9.1 12 (q23) fun x24 =>
      (f_X11_has x24 q10.1).bind fun q26 =>
      (f_X11_draw 10 x15).bind fun q27 =>
      (if q26 = 0 then
        ri m_fy 4 (p1) fun x42 =>
        some (x42)
      else
        ri m_fn 4 (p1) fun x44 =>
        some (x44) : Option (Int32)).bind fun q28 =>
      (if q28 ≤ q27.1 then
        some (0)
      else
        some (1) : Option (Int32)).bind fun q29 =>
      ri q9.2.1 144 (((12 * x12) + q23)) fun x30 =>
      lt ((x13 + (x30 + m_lift)) : Int32) fun x32 =>
      lt (x14 + 1 : Int32) fun x33 =>
      (if q26 = q29 then
        ri q9.1 12 (q23) fun x36 =>
        some ((x11 &&& (x36 ^^^ (-1))))
      else
        ri q9.1 12 (q23) fun x38 =>
        some ((x11 &&& x38)) : Option (Int32)).bind fun q34 =>
      LX11_day_83 p1 m_fy m_fn m_there m_lift q9 q10 ko n q34 q23 x32 x33 q27.2 := rfl
def f_X11_day (p0 : Int32) (p1 : Int32) (p2 : Int32) (m_down : Nat → Int32) (m_walk : Nat → Int32) (m_lik : Nat → Int32) (m_fy : Nat → Int32) (m_fn : Nat → Int32) (m_abv : Nat → Int32) (m_apart : Nat → Int32) (m_soon : Nat → Int32) (m_there : Int32) (m_lift : Int32) (m_seed : Int32) : Option (Int32 × (Nat → Int32) × (Nat → Int32) × (Nat → Int32) × Int32) :=
  (f_X11_isCup p1).bind fun q1 =>
  if q1 = 0 then
    some ((-2), m_abv, m_apart, m_soon, m_seed)
  else
    (f_X11_in (Int32.toInt64 p0) (0 : Int64) (65535 : Int64)).bind fun q3 =>
    if q3 = 0 then
      some ((-3), m_abv, m_apart, m_soon, m_seed)
    else
      (f_X11_in (Int32.toInt64 p2) (0 : Int64) (3 : Int64)).bind fun q5 =>
      if q5 = 0 then
        some ((-3), m_abv, m_apart, m_soon, m_seed)
      else
        (f_X11_sources m_lik m_there).bind fun q7 =>
        if q7 = 0 then
          some ((-4), m_abv, m_apart, m_soon, m_seed)
        else
          (f_X11_laySoon q7 m_down m_walk m_abv m_apart m_soon m_there m_lift).bind fun q9 =>
          (f_X11_drawSource q7 m_lik p0).bind fun q10 =>
          LX11_day_83 p1 m_fy m_fn m_there m_lift q9 q10 (fun x16 x17 x18 x19 x20 =>
            if p2 = 0 then
              some (x18, q9.1, q9.2.1, q9.2.2, x20)
            else
              if p2 = 1 then
                (f_X11_least x16).bind fun q49 =>
                some (q49, q9.1, q9.2.1, q9.2.2, x20)
              else
                if p2 = 2 then
                  some (q10.1, q9.1, q9.2.1, q9.2.2, x20)
                else
                  some (x19, q9.1, q9.2.1, q9.2.2, x20)) FU q7 0 0 0 q10.2
abbrev rmX11_day : Room := { frames := 4, cells := 0, slots := 0, locals := 96 }
set_option maxHeartbeats 4000000 in
set_option maxRecDepth 100000 in
theorem c_X11_day {l : Launch} {D : va_G} {g : Nat → ClassId} {N : Nat} {ad : Nat → Nat} {C : Nat → va_E} {sz : Nat} {m_len : Int32} {m_rm : Int32} {m_there : Int32} {m_lift : Int32} {m_blank : Int32} {m_fm : Int32} {m_at : Int32} {m_pl : Int32} {m_end : Int32} {m_seed : Int32} {m_down : Nat → Int32} {m_walk : Nat → Int32} {m_lik : Nat → Int32} {m_fy : Nat → Int32} {m_fn : Nat → Int32} {m_abv : Nat → Int32} {m_apart : Nat → Int32} {m_soon : Nat → Int32} {p0 : Int32} {p1 : Int32} {p2 : Int32} {rr : Int32 × (Nat → Int32) × (Nat → Int32) × (Nat → Int32) × Int32} (hN : 109 ≤ N) (hI : Inj N ad) (h86 : C 86 = .inr (11, [.ref (ad 87), .int m_len, .ref (ad 88), .int m_rm, .int m_there, .ref (ad 89), .ref (ad 90), .ref (ad 91), .ref (ad 92), .ref (ad 93), .ref (ad 94), .ref (ad 95), .ref (ad 96), .ref (ad 97), .ref (ad 98), .ref (ad 99), .ref (ad 100), .ref (ad 101), .int m_lift, .int m_blank, .ref (ad 102), .int m_fm, .int m_at, .int m_pl, .int m_end, .ref (ad 103), .ref (ad 104), .ref (ad 105), .ref (ad 106), .ref (ad 107), .ref (ad 108), .int m_seed])) (h89 : C 89 = aI g 12 m_down) (h91 : C 91 = aI g 12 m_walk) (h94 : C 94 = aI g 12 m_lik) (h100 : C 100 = aI g 4 m_fy) (h101 : C 101 = aI g 4 m_fn) (h103 : C 103 = aI g 12 m_abv) (h104 : C 104 = aI g 144 m_apart) (h107 : C 107 = aI g 49152 m_soon) (hf : f_X11_day p0 p1 p2 m_down m_walk m_lik m_fy m_fn m_abv m_apart m_soon m_there m_lift m_seed = some rr) : Met l yX11_day wsX11_day rmX11_day (PcW D g N ad C sz [.ref (ad 86), .int p0, .int p1, .int p2]) (QiW D N ad sz tP rr.1 (fun C' => (∀ i : Nat, i ≠ 103 ∧ i ≠ 104 ∧ i ≠ 107 ∧ i ≠ 86 → C' i = C i) ∧ (C' 103 = aI g 12 rr.2.1) ∧ (C' 104 = aI g 144 rr.2.2.1) ∧ (C' 107 = aI g 49152 rr.2.2.2.1) ∧ (C' 86 = .inr (11, [.ref (ad 87), .int m_len, .ref (ad 88), .int m_rm, .int m_there, .ref (ad 89), .ref (ad 90), .ref (ad 91), .ref (ad 92), .ref (ad 93), .ref (ad 94), .ref (ad 95), .ref (ad 96), .ref (ad 97), .ref (ad 98), .ref (ad 99), .ref (ad 100), .ref (ad 101), .int m_lift, .int m_blank, .ref (ad 102), .int m_fm, .int m_at, .int m_pl, .int m_end, .ref (ad 103), .ref (ad 104), .ref (ad 105), .ref (ad 106), .ref (ad 107), .ref (ad 108), .int rr.2.2.2.2])))) 0 0 (Aw N ad sz) := by
  refine Met.ofW (cc := cX11_day) (maxL := 13) (ret := (some .int)) (by decide) rfl ?_
  intro p e s m args below meth c s₁ B hml hv
  obtain ⟨hav, hsz, hK, hP⟩ := hv
  subst hsz
  have hx := B.exec
  have hb := B.bytes
  have hr := B.returns
  have hts := atoms_spec (ws := wsX11_day) B.pre
  have hown : s.vm.findClass RX11 = some m.cls := findClass_of_methodNamed B.named
  have hlocks := B.notSynchronized
  generalize hQ : MQ below (QiW D N ad s.heap.size tP rr.1 (fun C' => (∀ i : Nat, i ≠ 103 ∧ i ≠ 104 ∧ i ≠ 107 ∧ i ≠ 86 → C' i = C i) ∧ (C' 103 = aI g 12 rr.2.1) ∧ (C' 104 = aI g 144 rr.2.2.1) ∧ (C' 107 = aI g 49152 rr.2.2.2.1) ∧ (C' 86 = .inr (11, [.ref (ad 87), .int m_len, .ref (ad 88), .int m_rm, .int m_there, .ref (ad 89), .ref (ad 90), .ref (ad 91), .ref (ad 92), .ref (ad 93), .ref (ad 94), .ref (ad 95), .ref (ad 96), .ref (ad 97), .ref (ad 98), .ref (ad 99), .ref (ad 100), .ref (ad 101), .int m_lift, .int m_blank, .ref (ad 102), .int m_fm, .int m_at, .int m_pl, .int m_end, .ref (ad 103), .ref (ad 104), .ref (ad 105), .ref (ad 106), .ref (ad 107), .ref (ad 108), .int rr.2.2.2.2])))) args s 0 0 (Aw N ad s.heap.size) = QQ
  have hS : va_S (Aw N ad s.heap.size) s.heap s.heap [] := va_S.rf
  have hA : ∀ q, s.heap.size ≤ q → (Aw N ad s.heap.size) q := fun q h => Or.inr h
  have hAd : ∀ j : Nat, j < N → (Aw N ad s.heap.size) (ad j) := fun j h => Or.inl ⟨j, h, rfl⟩
  obtain ⟨C0, hC0⟩ : ∃ C0 : Nat → va_E, C0 = C := ⟨_, rfl⟩
  have hag : ∀ i : Nat, i ≠ 103 ∧ i ≠ 104 ∧ i ≠ 107 ∧ i ≠ 86 → C i = C0 i := fun i _ => by rw [hC0]
  rw [← hC0] at hQ
  have k0 := hts (.constantLong RX11 303 (65535)) (List.mem_of_getElem? (i := 1) rfl)
  have k1 := hts (.constantLong RX11 160 (3)) (List.mem_of_getElem? (i := 2) rfl)
  have k2 := hts (.fieldLink RX11 296 "UpDrainModel" "seed" "I") (List.mem_of_getElem? (i := 3) rfl)
  have nX11 : ∀ w ∈ u_ws RX11 TX11 32, w ∈ wsX11_day := fun _ h => List.mem_cons_of_mem _ (List.mem_append_right _ h)
  have k4 := hts (.fieldLink RX11 62 "UpDrainModel" "aboves" "[I") (List.mem_of_getElem? (i := 4) rfl)
  have k5 := hts (.fieldLink RX11 53 "UpDrainModel" "falseYes" "[I") (List.mem_of_getElem? (i := 6) rfl)
  have k6 := hts (.fieldLink RX11 56 "UpDrainModel" "falseNo" "[I") (List.mem_of_getElem? (i := 5) rfl)
  have k7 := hts (.fieldLink RX11 65 "UpDrainModel" "apart" "[I") (List.mem_of_getElem? (i := 7) rfl)
  have k8 := hts (.fieldLink RX11 143 "UpDrainModel" "lifting" "I") (List.mem_of_getElem? (i := 8) rfl)
  have hE := lg_entry_eq m [.ref (ad 86), .int p0, .int p1, .int p2] 13
  rw [← hav] at hE
  rw [hE]
  have hl := lv_entry [.ref (ad 86), .int p0, .int p1, .int p2] (n := 13) (Nat.le_of_ble_eq_true rfl)
  generalize (lg_sl [.ref (ad 86), .int p0, .int p1, .int p2] ++ List.replicate (13 - (lg_sl [.ref (ad 86), .int p0, .int p1, .int p2]).length) Slot.unset).toArray = ls at hl ⊢
  have hl : lv_has ls 13 [(0, .ref (ad 86)), (1, .int p0), (2, .int p1), (3, .int p2)] := hl
  clear hE
  unfold f_X11_day at hf
  suffices hgo : ∀ (H : Heap) (locs : List Loc), va_P D vwCl (wd N ad C) H → va_S (Aw N ad s.heap.size) s.heap H locs → W p l e (headSpec wsX11_day rmX11_day).room s m args below meth c H locs 0 0 QQ (F0 m 0 ls []) from hgo s.heap [] hP hS
  clear hS hP
  intro H locs hP hS
  refine lv_iload_n hx hb dX11_day_0 rfl (lv_at hl 2 rfl) ?_
  obtain ⟨q1, hq1, hf⟩ := bd_e hf
  refine k_iR (va_runS (As := [.int p1]) (rest := []) ⟨hx, hb, hml, hown, hts⟩ (c_X11_isCup (l := l) (sz := H.size) (p0 := p1) hq1) (va_cwS 1 hts gX11_day_X11_isCup rfl rfl rfl (by decide +kernel) ⟨Nat.le_of_ble_eq_true rfl, Nat.le_of_ble_eq_true rfl⟩) preS0 rfl rfl hl.1 rfl (lv_room (Nat.le_of_ble_eq_true rfl)) dX11_day_1 ⟨Nat.le_of_ble_eq_true rfl, Nat.le_of_ble_eq_true rfl⟩) hA hP hS (fun H locs hP hS hbz_q1 => ?_)
  refine lv_if_ne (tgt := 10) hx hb dX11_day_4 (by decide) (fun c2 => ?_) (fun c2 => ?_)
  · have hf := ie_e c2 hf
    refine lv_iload_n hx hb dX11_day_10 rfl (lv_at hl 1 rfl) ?_
    refine lv_i2l hx hb dX11_day_11 rfl ?_
    refine lv_lconst (v := 0) hx hb dX11_day_12 (by decide) ?_
    refine lv_ldc2 (own := RX11) hx hb hown k0 dX11_day_13 ?_
    obtain ⟨q3, hq3, hf⟩ := bd_e hf
    refine k_iR (va_runS (As := [.long (Int32.toInt64 p0), .long (0 : Int64), .long (65535 : Int64)]) (rest := []) ⟨hx, hb, hml, hown, hts⟩ (c_X11_in (l := l) (sz := H.size) (p0 := (Int32.toInt64 p0)) (p1 := (0 : Int64)) (p2 := (65535 : Int64)) hq3) (va_cwS 3 hts gX11_day_X11_in rfl rfl rfl (by decide +kernel) ⟨Nat.le_of_ble_eq_true rfl, Nat.le_of_ble_eq_true rfl⟩) preS0 rfl rfl hl.1 rfl (lv_room (Nat.le_of_ble_eq_true rfl)) dX11_day_16 ⟨Nat.le_of_ble_eq_true rfl, Nat.le_of_ble_eq_true rfl⟩) hA hP hS (fun H locs hP hS hbz_q3 => ?_)
    refine lv_if_eq (tgt := 34) hx hb dX11_day_19 (by decide) (fun c4 => ?_) (fun c4 => ?_)
    · have hf := it_e c4 hf
      refine lv_bipush (v := (-3)) hx hb dX11_day_34 (by decide) ?_
      obtain rfl := Option.some.inj hf
      rw [← hQ]
      exact e_iW hx hb hr rfl (tP_i _) hP hS ⟨hag, h103, h104, h107, h86⟩ hlocks dX11_day_36
    · have hf := ie_e c4 hf
      refine lv_iload_n hx hb dX11_day_22 rfl (lv_at hl 3 rfl) ?_
      refine lv_i2l hx hb dX11_day_23 rfl ?_
      refine lv_lconst (v := 0) hx hb dX11_day_24 (by decide) ?_
      refine lv_ldc2 (own := RX11) hx hb hown k1 dX11_day_25 ?_
      obtain ⟨q5, hq5, hf⟩ := bd_e hf
      refine k_iR (va_runS (As := [.long (Int32.toInt64 p2), .long (0 : Int64), .long (3 : Int64)]) (rest := []) ⟨hx, hb, hml, hown, hts⟩ (c_X11_in (l := l) (sz := H.size) (p0 := (Int32.toInt64 p2)) (p1 := (0 : Int64)) (p2 := (3 : Int64)) hq5) (va_cwS 3 hts gX11_day_X11_in rfl rfl rfl (by decide +kernel) ⟨Nat.le_of_ble_eq_true rfl, Nat.le_of_ble_eq_true rfl⟩) preS0 rfl rfl hl.1 rfl (lv_room (Nat.le_of_ble_eq_true rfl)) dX11_day_28 ⟨Nat.le_of_ble_eq_true rfl, Nat.le_of_ble_eq_true rfl⟩) hA hP hS (fun H locs hP hS hbz_q5 => ?_)
      refine lv_if_ne (tgt := 37) hx hb dX11_day_31 (by decide) (fun c6 => ?_) (fun c6 => ?_)
      · have hf := ie_e c6 hf
        refine lv_aload_n hx hb dX11_day_37 rfl (lv_at hl 0 rfl) ?_
        obtain ⟨q7, hq7, hf⟩ := bd_e hf
        refine k_iR (va_runV (C := RX11) (As := []) (rest := []) ⟨hx, hb, hml, hown, hts⟩ (c_X11_sources (l := l) (sz := H.size)  hN h86 h94 hq7) (cwV 0 hts gX11_day_X11_sources rfl rfl rfl (by decide +kernel) ⟨Nat.le_of_ble_eq_true rfl, Nat.le_of_ble_eq_true rfl⟩) (preV_of hK hP (by omega) h86 rfl) rfl rfl hl.1 rfl (lv_room (Nat.le_of_ble_eq_true rfl)) dX11_day_38 ⟨Nat.le_of_ble_eq_true rfl, Nat.le_of_ble_eq_true rfl⟩) hA hP hS (fun H locs hP hS hbz_q7 => ?_)
        refine lv_istore (lv' := [(4, .int q7), (0, .ref (ad 86)), (1, .int p0), (2, .int p1), (3, .int p2)]) hx hb dX11_day_41 hl (by decide) rfl (fun ls hl => ?_)
        refine lv_iload hx hb dX11_day_43 (lv_at hl 0 rfl) ?_
        refine lv_if_ne (tgt := 51) hx hb dX11_day_45 (by decide) (fun c8 => ?_) (fun c8 => ?_)
        · have hf := ie_e c8 hf
          refine lv_aload_n hx hb dX11_day_51 rfl (lv_at hl 1 rfl) ?_
          refine lv_iload hx hb dX11_day_52 (lv_at hl 0 rfl) ?_
          obtain ⟨q9, hq9, hf⟩ := bd_e hf
          refine k_vW (va_runV (C := RX11) (As := [.int q7]) (rest := []) ⟨hx, hb, hml, hown, hts⟩ (c_X11_laySoon (l := l) (sz := H.size) (p0 := q7) hN hI h86 h89 h91 h103 h104 h107 hq9) (cwV 1 hts gX11_day_X11_laySoon rfl rfl rfl (by decide +kernel) ⟨Nat.le_of_ble_eq_true rfl, Nat.le_of_ble_eq_true rfl⟩) (preV_of hK hP (by omega) h86 rfl) rfl rfl hl.1 rfl (lv_room (Nat.le_of_ble_eq_true rfl)) dX11_day_54 ⟨Nat.le_of_ble_eq_true rfl, Nat.le_of_ble_eq_true rfl⟩) hA hAd hS (fun C H locs hP hS hpo => ?_)
          obtain ⟨he, h103, h104, h107⟩ := hpo
          have hag : ∀ i : Nat, i ≠ 103 ∧ i ≠ 104 ∧ i ≠ 107 ∧ i ≠ 86 → C i = C0 i := fun i h => (he i (by omega)).trans (hag i h)
          have h86 := (he 86 (by decide)).trans h86
          have h89 := (he 89 (by decide)).trans h89
          have h91 := (he 91 (by decide)).trans h91
          have h94 := (he 94 (by decide)).trans h94
          have h100 := (he 100 (by decide)).trans h100
          have h101 := (he 101 (by decide)).trans h101
          refine lv_aload_n hx hb dX11_day_57 rfl (lv_at hl 1 rfl) ?_
          refine lv_iload_n hx hb dX11_day_58 rfl (lv_at hl 2 rfl) ?_
          refine r_put (own := RX11) (T := TX11) (n := 32) (ci := 11) (v := .int p0) hx hb hts nX11 tyX11 tyX11_ok nmX11 hown hK hI hAd hP hS (by omega) h86 rfl 31 (by decide) k2 rfl rfl rfl (Nat.le_of_ble_eq_true rfl) dX11_day_59 (fun C H locs hP hS he hn => ?_)
          have hag : ∀ i : Nat, i ≠ 103 ∧ i ≠ 104 ∧ i ≠ 107 ∧ i ≠ 86 → C i = C0 i := fun i h => (he i (by omega)).trans (hag i h)
          have h89 := (he 89 (by decide)).trans h89
          have h91 := (he 91 (by decide)).trans h91
          have h94 := (he 94 (by decide)).trans h94
          have h100 := (he 100 (by decide)).trans h100
          have h101 := (he 101 (by decide)).trans h101
          have h103 := (he 103 (by decide)).trans h103
          have h104 := (he 104 (by decide)).trans h104
          have h107 := (he 107 (by decide)).trans h107
          have h86 : C 86 = .inr (11, [.ref (ad 87), .int m_len, .ref (ad 88), .int m_rm, .int m_there, .ref (ad 89), .ref (ad 90), .ref (ad 91), .ref (ad 92), .ref (ad 93), .ref (ad 94), .ref (ad 95), .ref (ad 96), .ref (ad 97), .ref (ad 98), .ref (ad 99), .ref (ad 100), .ref (ad 101), .int m_lift, .int m_blank, .ref (ad 102), .int m_fm, .int m_at, .int m_pl, .int m_end, .ref (ad 103), .ref (ad 104), .ref (ad 105), .ref (ad 106), .ref (ad 107), .ref (ad 108), .int p0]) := hn
          refine lv_aload_n hx hb dX11_day_62 rfl (lv_at hl 1 rfl) ?_
          refine lv_iload hx hb dX11_day_63 (lv_at hl 0 rfl) ?_
          obtain ⟨q10, hq10, hf⟩ := bd_e hf
          refine k_iW (va_runV (C := RX11) (As := [.int q7]) (rest := []) ⟨hx, hb, hml, hown, hts⟩ (c_X11_drawSource (l := l) (sz := H.size) (p0 := q7) hN hI h86 h94 hq10) (cwV 1 hts gX11_day_X11_drawSource rfl rfl rfl (by decide +kernel) ⟨Nat.le_of_ble_eq_true rfl, Nat.le_of_ble_eq_true rfl⟩) (preV_of hK hP (by omega) h86 rfl) rfl rfl hl.1 rfl (lv_room (Nat.le_of_ble_eq_true rfl)) dX11_day_65 ⟨Nat.le_of_ble_eq_true rfl, Nat.le_of_ble_eq_true rfl⟩) hA hAd hS (fun C H locs hP hS hpo hbz_q10 => ?_)
          obtain ⟨he, h86⟩ := hpo
          have hag : ∀ i : Nat, i ≠ 103 ∧ i ≠ 104 ∧ i ≠ 107 ∧ i ≠ 86 → C i = C0 i := fun i h => (he i (by omega)).trans (hag i h)
          have h89 := (he 89 (by decide)).trans h89
          have h91 := (he 91 (by decide)).trans h91
          have h94 := (he 94 (by decide)).trans h94
          have h100 := (he 100 (by decide)).trans h100
          have h101 := (he 101 (by decide)).trans h101
          have h103 := (he 103 (by decide)).trans h103
          have h104 := (he 104 (by decide)).trans h104
          have h107 := (he 107 (by decide)).trans h107
          refine lv_istore (lv' := [(5, .int q10.1), (4, .int q7), (0, .ref (ad 86)), (1, .int p0), (2, .int p1), (3, .int p2)]) hx hb dX11_day_68 hl (by decide) rfl (fun ls hl => ?_)
          refine lv_iload hx hb dX11_day_70 (lv_at hl 1 rfl) ?_
          refine lv_istore (lv' := [(6, .int q7), (5, .int q10.1), (4, .int q7), (0, .ref (ad 86)), (1, .int p0), (2, .int p1), (3, .int p2)]) hx hb dX11_day_72 hl (by decide) rfl (fun ls hl => ?_)
          refine lv_iconst (v := 0) hx hb dX11_day_74 (by decide) ?_
          refine lv_istore (lv' := [(7, .int 0), (6, .int q7), (5, .int q10.1), (4, .int q7), (0, .ref (ad 86)), (1, .int p0), (2, .int p1), (3, .int p2)]) hx hb dX11_day_75 hl (by decide) rfl (fun ls hl => ?_)
          refine lv_iconst (v := 0) hx hb dX11_day_77 (by decide) ?_
          refine lv_istore (lv' := [(8, .int 0), (7, .int 0), (6, .int q7), (5, .int q10.1), (4, .int q7), (0, .ref (ad 86)), (1, .int p0), (2, .int p1), (3, .int p2)]) hx hb dX11_day_78 hl (by decide) rfl (fun ls hl => ?_)
          refine lv_iconst (v := 0) hx hb dX11_day_80 (by decide) ?_
          refine lv_istore (lv' := [(9, .int 0), (8, .int 0), (7, .int 0), (6, .int q7), (5, .int q10.1), (4, .int q7), (0, .ref (ad 86)), (1, .int p0), (2, .int p1), (3, .int p2)]) hx hb dX11_day_81 hl (by decide) rfl (fun ls hl => ?_)
          have key83 : ∀ (ko : Int32 → Int32 → Int32 → Int32 → Int32 → Option (Int32 × (Nat → Int32) × (Nat → Int32) × (Nat → Int32) × Int32)), (∀ (x16 : Int32) (x17 : Int32) (x18 : Int32) (x19 : Int32) (x20 : Int32) (C : Nat → va_E) (H : Heap) (locs : List Loc) (ls : Array Slot), va_P D vwCl (wd N ad C) H → va_S (Aw N ad s.heap.size) s.heap H locs → (∀ i : Nat, i ≠ 103 ∧ i ≠ 104 ∧ i ≠ 107 ∧ i ≠ 86 → C i = C0 i) → C 86 = .inr (11, [.ref (ad 87), .int m_len, .ref (ad 88), .int m_rm, .int m_there, .ref (ad 89), .ref (ad 90), .ref (ad 91), .ref (ad 92), .ref (ad 93), .ref (ad 94), .ref (ad 95), .ref (ad 96), .ref (ad 97), .ref (ad 98), .ref (ad 99), .ref (ad 100), .ref (ad 101), .int m_lift, .int m_blank, .ref (ad 102), .int m_fm, .int m_at, .int m_pl, .int m_end, .ref (ad 103), .ref (ad 104), .ref (ad 105), .ref (ad 106), .ref (ad 107), .ref (ad 108), .int x20]) → C 89 = aI g 12 m_down → C 91 = aI g 12 m_walk → C 94 = aI g 12 m_lik → C 100 = aI g 4 m_fy → C 101 = aI g 4 m_fn → C 103 = aI g 12 q9.1 → C 104 = aI g 144 q9.2.1 → C 107 = aI g 49152 q9.2.2 → lv_has ls 13 [(0, .ref (ad 86)), (1, .int p0), (2, .int p1), (3, .int p2), (4, .int q7), (5, .int q10.1), (6, .int x16), (7, .int x17), (8, .int x18), (9, .int x19)] → ko x16 x17 x18 x19 x20 = some rr → W p l e (headSpec wsX11_day rmX11_day).room s m args below meth c H locs 0 0 QQ (F0 m 219 ls [])) → ∀ (n : Nat) (x11 : Int32) (x12 : Int32) (x13 : Int32) (x14 : Int32) (x15 : Int32) (C : Nat → va_E) (H : Heap) (locs : List Loc) (ls : Array Slot), va_P D vwCl (wd N ad C) H → va_S (Aw N ad s.heap.size) s.heap H locs → (∀ i : Nat, i ≠ 103 ∧ i ≠ 104 ∧ i ≠ 107 ∧ i ≠ 86 → C i = C0 i) → C 86 = .inr (11, [.ref (ad 87), .int m_len, .ref (ad 88), .int m_rm, .int m_there, .ref (ad 89), .ref (ad 90), .ref (ad 91), .ref (ad 92), .ref (ad 93), .ref (ad 94), .ref (ad 95), .ref (ad 96), .ref (ad 97), .ref (ad 98), .ref (ad 99), .ref (ad 100), .ref (ad 101), .int m_lift, .int m_blank, .ref (ad 102), .int m_fm, .int m_at, .int m_pl, .int m_end, .ref (ad 103), .ref (ad 104), .ref (ad 105), .ref (ad 106), .ref (ad 107), .ref (ad 108), .int x15]) → C 89 = aI g 12 m_down → C 91 = aI g 12 m_walk → C 94 = aI g 12 m_lik → C 100 = aI g 4 m_fy → C 101 = aI g 4 m_fn → C 103 = aI g 12 q9.1 → C 104 = aI g 144 q9.2.1 → C 107 = aI g 49152 q9.2.2 → lv_has ls 13 [(0, .ref (ad 86)), (1, .int p0), (2, .int p1), (3, .int p2), (4, .int q7), (5, .int q10.1), (6, .int x11), (7, .int x12), (8, .int x13), (9, .int x14)] → LX11_day_83 p1 m_fy m_fn m_there m_lift q9 q10 ko n x11 x12 x13 x14 x15 = some rr → W p l e (headSpec wsX11_day rmX11_day).room s m args below meth c H locs 0 0 QQ (F0 m 83 ls []) := by
            intro ko hko n
            induction n with
            | zero =>
              intro x11 x12 x13 x14 x15 C H locs ls hP hS hag h86 h89 h91 h94 h100 h101 h103 h104 h107 hl hf
              rw [LX11_day_83_z] at hf
              cases hf
            | succ n ih =>
              intro x11 x12 x13 x14 x15 C H locs ls hP hS hag h86 h89 h91 h94 h100 h101 h103 h104 h107 hl hf
              rw [LX11_day_83_s] at hf
              refine lv_iload hx hb dX11_day_83 (lv_at hl 6 rfl) ?_
              obtain ⟨q21, hq21, hf⟩ := bd_e hf
              refine k_iR (va_runS (As := [.int x11]) (rest := []) ⟨hx, hb, hml, hown, hts⟩ (c_X11_many (l := l) (sz := H.size) (p0 := x11) hq21) (va_cwS 1 hts gX11_day_X11_many rfl rfl rfl (by decide +kernel) ⟨Nat.le_of_ble_eq_true rfl, Nat.le_of_ble_eq_true rfl⟩) preS0 rfl rfl hl.1 rfl (lv_room (Nat.le_of_ble_eq_true rfl)) dX11_day_85 ⟨Nat.le_of_ble_eq_true rfl, Nat.le_of_ble_eq_true rfl⟩) hA hP hS (fun H locs hP hS hbz_q21 => ?_)
              refine lv_iconst (v := 1) hx hb dX11_day_88 (by decide) ?_
              refine lv_icmp_le (tgt := 219) hx hb dX11_day_89 (by decide) (fun c22 => ?_) (fun c22 => ?_)
              · have hf := it_e c22 hf
                exact hko x11 x12 x13 x14 x15 C H locs ls hP hS hag h86 h89 h91 h94 h100 h101 h103 h104 h107 (lv_sub hl [0, 1, 2, 3, 4, 5, 6, 7, 8, 9] rfl) hf
              · have hf := ie_e c22 hf
                refine lv_aload_n hx hb dX11_day_92 rfl (lv_at hl 0 rfl) ?_
                refine lv_iload hx hb dX11_day_93 (lv_at hl 7 rfl) ?_
                refine lv_iload hx hb dX11_day_95 (lv_at hl 6 rfl) ?_
                obtain ⟨q23, hq23, hf⟩ := bd_e hf
                refine k_iR (va_runV (C := RX11) (As := [.int x12, .int x11]) (rest := []) ⟨hx, hb, hml, hown, hts⟩ (c_X11_soonLid (l := l) (sz := H.size) (p0 := x12) (p1 := x11) hN h86 h103 h104 h107 hq23) (cwV 2 hts gX11_day_X11_soonLid rfl rfl rfl (by decide +kernel) ⟨Nat.le_of_ble_eq_true rfl, Nat.le_of_ble_eq_true rfl⟩) (preV_of hK hP (by omega) h86 rfl) rfl rfl hl.1 rfl (lv_room (Nat.le_of_ble_eq_true rfl)) dX11_day_97 ⟨Nat.le_of_ble_eq_true rfl, Nat.le_of_ble_eq_true rfl⟩) hA hP hS (fun H locs hP hS hbz_q23 => ?_)
                refine lv_istore (lv' := [(10, .int q23), (0, .ref (ad 86)), (1, .int p0), (2, .int p1), (3, .int p2), (4, .int q7), (5, .int q10.1), (6, .int x11), (7, .int x12), (8, .int x13), (9, .int x14)]) hx hb dX11_day_100 hl (by decide) rfl (fun ls hl => ?_)
                refine lv_aload_n hx hb dX11_day_102 rfl (lv_at hl 1 rfl) ?_
                refine r_get (own := RX11) (T := TX11) (n := 32) (ci := 11) (v := .ref (ad 103)) hx hb hts nX11 hown hK hP (by omega) h86 rfl 25 (by decide) k4 rfl dX11_day_103 ?_
                refine lv_iload hx hb dX11_day_106 (lv_at hl 0 rfl) ?_
                obtain ⟨i25, x24, ex24, hf⟩ := ri_e hf
                refine r_iald hx hb hK hP (by omega) h103 i25 dX11_day_108 ex24 ?_
                refine lv_iload hx hb dX11_day_109 (lv_at hl 6 rfl) ?_
                obtain ⟨q26, hq26, hf⟩ := bd_e hf
                refine k_iR (va_runS (As := [.int x24, .int q10.1]) (rest := []) ⟨hx, hb, hml, hown, hts⟩ (c_X11_has (l := l) (sz := H.size) (p0 := x24) (p1 := q10.1) hq26) (va_cwS 2 hts gX11_day_X11_has rfl rfl rfl (by decide +kernel) ⟨Nat.le_of_ble_eq_true rfl, Nat.le_of_ble_eq_true rfl⟩) preS0 rfl rfl hl.1 rfl (lv_room (Nat.le_of_ble_eq_true rfl)) dX11_day_111 ⟨Nat.le_of_ble_eq_true rfl, Nat.le_of_ble_eq_true rfl⟩) hA hP hS (fun H locs hP hS hbz_q26 => ?_)
                refine lv_istore (lv' := [(11, .int q26), (10, .int q23), (0, .ref (ad 86)), (1, .int p0), (2, .int p1), (3, .int p2), (4, .int q7), (5, .int q10.1), (6, .int x11), (7, .int x12), (8, .int x13), (9, .int x14)]) hx hb dX11_day_114 hl (by decide) rfl (fun ls hl => ?_)
                refine lv_aload_n hx hb dX11_day_116 rfl (lv_at hl 2 rfl) ?_
                refine lv_bipush (v := 10) hx hb dX11_day_117 (by decide) ?_
                obtain ⟨q27, hq27, hf⟩ := bd_e hf
                refine k_iW (va_runV (C := RX11) (As := [.int 10]) (rest := []) ⟨hx, hb, hml, hown, hts⟩ (c_X11_draw (l := l) (sz := H.size) (p0 := 10) hN hI h86 hq27) (cwV 1 hts gX11_day_X11_draw rfl rfl rfl (by decide +kernel) ⟨Nat.le_of_ble_eq_true rfl, Nat.le_of_ble_eq_true rfl⟩) (preV_of hK hP (by omega) h86 rfl) rfl rfl hl.1 rfl (lv_room (Nat.le_of_ble_eq_true rfl)) dX11_day_119 ⟨Nat.le_of_ble_eq_true rfl, Nat.le_of_ble_eq_true rfl⟩) hA hAd hS (fun C H locs hP hS hpo hbz_q27 => ?_)
                obtain ⟨he, h86⟩ := hpo
                have hag : ∀ i : Nat, i ≠ 103 ∧ i ≠ 104 ∧ i ≠ 107 ∧ i ≠ 86 → C i = C0 i := fun i h => (he i (by omega)).trans (hag i h)
                have h89 := (he 89 (by decide)).trans h89
                have h91 := (he 91 (by decide)).trans h91
                have h94 := (he 94 (by decide)).trans h94
                have h100 := (he 100 (by decide)).trans h100
                have h101 := (he 101 (by decide)).trans h101
                have h103 := (he 103 (by decide)).trans h103
                have h104 := (he 104 (by decide)).trans h104
                have h107 := (he 107 (by decide)).trans h107
                refine lv_iload hx hb dX11_day_122 (lv_at hl 0 rfl) ?_
                obtain ⟨q28, htq28, hf⟩ := bd_e hf
                have jnq28 : ∀ (C : Nat → va_E) (H : Heap) (locs : List Loc) (ls : Array Slot), va_P D vwCl (wd N ad C) H → va_S (Aw N ad s.heap.size) s.heap H locs → (∀ i : Nat, i ≠ 103 ∧ i ≠ 104 ∧ i ≠ 107 ∧ i ≠ 86 → C i = C0 i) → C 86 = .inr (11, [.ref (ad 87), .int m_len, .ref (ad 88), .int m_rm, .int m_there, .ref (ad 89), .ref (ad 90), .ref (ad 91), .ref (ad 92), .ref (ad 93), .ref (ad 94), .ref (ad 95), .ref (ad 96), .ref (ad 97), .ref (ad 98), .ref (ad 99), .ref (ad 100), .ref (ad 101), .int m_lift, .int m_blank, .ref (ad 102), .int m_fm, .int m_at, .int m_pl, .int m_end, .ref (ad 103), .ref (ad 104), .ref (ad 105), .ref (ad 106), .ref (ad 107), .ref (ad 108), .int q27.2]) → C 89 = aI g 12 m_down → C 91 = aI g 12 m_walk → C 94 = aI g 12 m_lik → C 100 = aI g 4 m_fy → C 101 = aI g 4 m_fn → C 103 = aI g 12 q9.1 → C 104 = aI g 144 q9.2.1 → C 107 = aI g 49152 q9.2.2 → lv_has ls 13 [(0, .ref (ad 86)), (1, .int p0), (2, .int p1), (3, .int p2), (4, .int q7), (5, .int q10.1), (6, .int x11), (7, .int x12), (8, .int x13), (9, .int x14), (10, .int q23), (11, .int q26)] → W p l e (headSpec wsX11_day rmX11_day).room s m args below meth c H locs 0 0 QQ (F0 m 142 ls [.int q28, .int q27.1]) := by
                  intro C H locs ls hP hS hag h86 h89 h91 h94 h100 h101 h103 h104 h107 hl
                  obtain ⟨q29, htq29, hf⟩ := bd_e hf
                  have jnq29 : ∀ (C : Nat → va_E) (H : Heap) (locs : List Loc) (ls : Array Slot), va_P D vwCl (wd N ad C) H → va_S (Aw N ad s.heap.size) s.heap H locs → (∀ i : Nat, i ≠ 103 ∧ i ≠ 104 ∧ i ≠ 107 ∧ i ≠ 86 → C i = C0 i) → C 86 = .inr (11, [.ref (ad 87), .int m_len, .ref (ad 88), .int m_rm, .int m_there, .ref (ad 89), .ref (ad 90), .ref (ad 91), .ref (ad 92), .ref (ad 93), .ref (ad 94), .ref (ad 95), .ref (ad 96), .ref (ad 97), .ref (ad 98), .ref (ad 99), .ref (ad 100), .ref (ad 101), .int m_lift, .int m_blank, .ref (ad 102), .int m_fm, .int m_at, .int m_pl, .int m_end, .ref (ad 103), .ref (ad 104), .ref (ad 105), .ref (ad 106), .ref (ad 107), .ref (ad 108), .int q27.2]) → C 89 = aI g 12 m_down → C 91 = aI g 12 m_walk → C 94 = aI g 12 m_lik → C 100 = aI g 4 m_fy → C 101 = aI g 4 m_fn → C 103 = aI g 12 q9.1 → C 104 = aI g 144 q9.2.1 → C 107 = aI g 49152 q9.2.2 → lv_has ls 13 [(0, .ref (ad 86)), (1, .int p0), (2, .int p1), (3, .int p2), (4, .int q7), (5, .int q10.1), (6, .int x11), (7, .int x12), (8, .int x13), (9, .int x14), (10, .int q23), (11, .int q26)] → W p l e (headSpec wsX11_day rmX11_day).room s m args below meth c H locs 0 0 QQ (F0 m 150 ls [.int q29]) := by
                    intro C H locs ls hP hS hag h86 h89 h91 h94 h100 h101 h103 h104 h107 hl
                    refine lv_istore (lv' := [(12, .int q29), (0, .ref (ad 86)), (1, .int p0), (2, .int p1), (3, .int p2), (4, .int q7), (5, .int q10.1), (6, .int x11), (7, .int x12), (8, .int x13), (9, .int x14), (10, .int q23), (11, .int q26)]) hx hb dX11_day_150 hl (by decide) rfl (fun ls hl => ?_)
                    refine lv_iload hx hb dX11_day_152 (lv_at hl 9 rfl) ?_
                    refine lv_aload_n hx hb dX11_day_154 rfl (lv_at hl 1 rfl) ?_
                    refine r_get (own := RX11) (T := TX11) (n := 32) (ci := 11) (v := .ref (ad 104)) hx hb hts nX11 hown hK hP (by omega) h86 rfl 26 (by decide) k7 rfl dX11_day_155 ?_
                    refine lv_bipush (v := 12) hx hb dX11_day_158 (by decide) ?_
                    refine lv_iload hx hb dX11_day_160 (lv_at hl 8 rfl) ?_
                    refine lv_imul hx hb dX11_day_162 ?_
                    refine lv_iload hx hb dX11_day_163 (lv_at hl 11 rfl) ?_
                    refine lv_iadd hx hb dX11_day_165 ?_
                    obtain ⟨i31, x30, ex30, hf⟩ := ri_e hf
                    refine r_iald hx hb hK hP (by omega) h104 i31 dX11_day_166 ex30 ?_
                    refine lv_aload_n hx hb dX11_day_167 rfl (lv_at hl 1 rfl) ?_
                    refine r_get (own := RX11) (T := TX11) (n := 32) (ci := 11) (v := .int m_lift) hx hb hts nX11 hown hK hP (by omega) h86 rfl 18 (by decide) k8 rfl dX11_day_168 ?_
                    refine lv_iadd hx hb dX11_day_171 ?_
                    refine lv_iadd hx hb dX11_day_172 ?_
                    obtain ⟨x32, ex32, hf⟩ := lt_e hf
                    refine tp_i ex32 ?_
                    refine lv_istore (lv' := [(8, .int x32), (12, .int q29), (0, .ref (ad 86)), (1, .int p0), (2, .int p1), (3, .int p2), (4, .int q7), (5, .int q10.1), (6, .int x11), (7, .int x12), (9, .int x14), (10, .int q23), (11, .int q26)]) hx hb dX11_day_173 hl (by decide) rfl (fun ls hl => ?_)
                    obtain ⟨x33, ex33, hf⟩ := lt_e hf
                    refine lv_iinc (v := x33) (lv' := [(9, .int x33), (8, .int x32), (12, .int q29), (0, .ref (ad 86)), (1, .int p0), (2, .int p1), (3, .int p2), (4, .int q7), (5, .int q10.1), (6, .int x11), (7, .int x12), (10, .int q23), (11, .int q26)]) hx hb dX11_day_175 hl (k := 10) rfl (by rw [ex33]; rfl) (by decide) rfl (fun ls hl => ?_)
                    refine lv_iload hx hb dX11_day_178 (lv_at hl 11 rfl) ?_
                    refine lv_istore (lv' := [(7, .int q23), (9, .int x33), (8, .int x32), (12, .int q29), (0, .ref (ad 86)), (1, .int p0), (2, .int p1), (3, .int p2), (4, .int q7), (5, .int q10.1), (6, .int x11), (10, .int q23), (11, .int q26)]) hx hb dX11_day_180 hl (by decide) rfl (fun ls hl => ?_)
                    refine lv_iload hx hb dX11_day_182 (lv_at hl 12 rfl) ?_
                    refine lv_iload hx hb dX11_day_184 (lv_at hl 3 rfl) ?_
                    obtain ⟨q34, htq34, hf⟩ := bd_e hf
                    have jnq34 : ∀ (C : Nat → va_E) (H : Heap) (locs : List Loc) (ls : Array Slot), va_P D vwCl (wd N ad C) H → va_S (Aw N ad s.heap.size) s.heap H locs → (∀ i : Nat, i ≠ 103 ∧ i ≠ 104 ∧ i ≠ 107 ∧ i ≠ 86 → C i = C0 i) → C 86 = .inr (11, [.ref (ad 87), .int m_len, .ref (ad 88), .int m_rm, .int m_there, .ref (ad 89), .ref (ad 90), .ref (ad 91), .ref (ad 92), .ref (ad 93), .ref (ad 94), .ref (ad 95), .ref (ad 96), .ref (ad 97), .ref (ad 98), .ref (ad 99), .ref (ad 100), .ref (ad 101), .int m_lift, .int m_blank, .ref (ad 102), .int m_fm, .int m_at, .int m_pl, .int m_end, .ref (ad 103), .ref (ad 104), .ref (ad 105), .ref (ad 106), .ref (ad 107), .ref (ad 108), .int q27.2]) → C 89 = aI g 12 m_down → C 91 = aI g 12 m_walk → C 94 = aI g 12 m_lik → C 100 = aI g 4 m_fy → C 101 = aI g 4 m_fn → C 103 = aI g 12 q9.1 → C 104 = aI g 144 q9.2.1 → C 107 = aI g 49152 q9.2.2 → lv_has ls 13 [(0, .ref (ad 86)), (1, .int p0), (2, .int p1), (3, .int p2), (4, .int q7), (5, .int q10.1), (6, .int x11), (7, .int q23), (8, .int x32), (9, .int x33), (10, .int q23), (11, .int q26), (12, .int q29)] → W p l e (headSpec wsX11_day rmX11_day).room s m args below meth c H locs 0 0 QQ (F0 m 214 ls [.int q34]) := by
                      intro C H locs ls hP hS hag h86 h89 h91 h94 h100 h101 h103 h104 h107 hl
                      refine lv_istore (lv' := [(6, .int q34), (0, .ref (ad 86)), (1, .int p0), (2, .int p1), (3, .int p2), (4, .int q7), (5, .int q10.1), (7, .int q23), (8, .int x32), (9, .int x33), (10, .int q23), (11, .int q26), (12, .int q29)]) hx hb dX11_day_214 hl (by decide) rfl (fun ls hl => ?_)
                      refine lv_goto (tgt := 83) hx hb dX11_day_216 (by decide) ?_
                      exact ih q34 q23 x32 x33 q27.2 C H locs ls hP hS hag h86 h89 h91 h94 h100 h101 h103 h104 h107 (lv_sub hl [1, 2, 3, 4, 5, 6, 0, 7, 8, 9] rfl) hf
                    clear hf
                    have hf := htq34
                    refine lv_icmp_eq (tgt := 202) hx hb dX11_day_186 (by decide) (fun c35 => ?_) (fun c35 => ?_)
                    · have hf := it_e c35 hf
                      refine lv_iload hx hb dX11_day_202 (lv_at hl 10 rfl) ?_
                      refine lv_aload_n hx hb dX11_day_204 rfl (lv_at hl 4 rfl) ?_
                      refine r_get (own := RX11) (T := TX11) (n := 32) (ci := 11) (v := .ref (ad 103)) hx hb hts nX11 hown hK hP (by omega) h86 rfl 25 (by decide) k4 rfl dX11_day_205 ?_
                      refine lv_iload hx hb dX11_day_208 (lv_at hl 11 rfl) ?_
                      obtain ⟨i37, x36, ex36, hf⟩ := ri_e hf
                      refine r_iald hx hb hK hP (by omega) h103 i37 dX11_day_210 ex36 ?_
                      refine lv_iconst (v := (-1)) hx hb dX11_day_211 (by decide) ?_
                      refine lv_ixor hx hb dX11_day_212 ?_
                      refine lv_iand hx hb dX11_day_213 ?_
                      obtain rfl := Option.some.inj hf
                      exact jnq34 C H locs ls hP hS hag h86 h89 h91 h94 h100 h101 h103 h104 h107 (lv_sub hl [4, 5, 6, 7, 8, 9, 10, 0, 2, 1, 11, 12, 3] rfl)
                    · have hf := ie_e c35 hf
                      refine lv_iload hx hb dX11_day_189 (lv_at hl 10 rfl) ?_
                      refine lv_aload_n hx hb dX11_day_191 rfl (lv_at hl 4 rfl) ?_
                      refine r_get (own := RX11) (T := TX11) (n := 32) (ci := 11) (v := .ref (ad 103)) hx hb hts nX11 hown hK hP (by omega) h86 rfl 25 (by decide) k4 rfl dX11_day_192 ?_
                      refine lv_iload hx hb dX11_day_195 (lv_at hl 11 rfl) ?_
                      obtain ⟨i39, x38, ex38, hf⟩ := ri_e hf
                      refine r_iald hx hb hK hP (by omega) h103 i39 dX11_day_197 ex38 ?_
                      refine lv_iand hx hb dX11_day_198 ?_
                      refine lv_goto (tgt := 214) hx hb dX11_day_199 (by decide) ?_
                      obtain rfl := Option.some.inj hf
                      exact jnq34 C H locs ls hP hS hag h86 h89 h91 h94 h100 h101 h103 h104 h107 (lv_sub hl [4, 5, 6, 7, 8, 9, 10, 0, 2, 1, 11, 12, 3] rfl)
                  clear hf
                  have hf := htq29
                  refine lv_icmp_ge (tgt := 149) hx hb dX11_day_142 (by decide) (fun c40 => ?_) (fun c40 => ?_)
                  · have hf := it_e c40 hf
                    refine lv_iconst (v := 0) hx hb dX11_day_149 (by decide) ?_
                    obtain rfl := Option.some.inj hf
                    exact jnq29 C H locs ls hP hS hag h86 h89 h91 h94 h100 h101 h103 h104 h107 (lv_sub hl [0, 1, 2, 3, 4, 5, 6, 7, 8, 9, 10, 11] rfl)
                  · have hf := ie_e c40 hf
                    refine lv_iconst (v := 1) hx hb dX11_day_145 (by decide) ?_
                    refine lv_goto (tgt := 150) hx hb dX11_day_146 (by decide) ?_
                    obtain rfl := Option.some.inj hf
                    exact jnq29 C H locs ls hP hS hag h86 h89 h91 h94 h100 h101 h103 h104 h107 (lv_sub hl [0, 1, 2, 3, 4, 5, 6, 7, 8, 9, 10, 11] rfl)
                clear hf
                have hf := htq28
                refine lv_if_eq (tgt := 136) hx hb dX11_day_124 (by decide) (fun c41 => ?_) (fun c41 => ?_)
                · have hf := it_e c41 hf
                  refine lv_aload_n hx hb dX11_day_136 rfl (lv_at hl 2 rfl) ?_
                  refine r_get (own := RX11) (T := TX11) (n := 32) (ci := 11) (v := .ref (ad 100)) hx hb hts nX11 hown hK hP (by omega) h86 rfl 16 (by decide) k5 rfl dX11_day_137 ?_
                  refine lv_iload_n hx hb dX11_day_140 rfl (lv_at hl 4 rfl) ?_
                  obtain ⟨i43, x42, ex42, hf⟩ := ri_e hf
                  refine r_iald hx hb hK hP (by omega) h100 i43 dX11_day_141 ex42 ?_
                  obtain rfl := Option.some.inj hf
                  exact jnq28 C H locs ls hP hS hag h86 h89 h91 h94 h100 h101 h103 h104 h107 (lv_sub hl [2, 3, 4, 5, 6, 7, 8, 9, 10, 11, 1, 0] rfl)
                · have hf := ie_e c41 hf
                  refine lv_aload_n hx hb dX11_day_127 rfl (lv_at hl 2 rfl) ?_
                  refine r_get (own := RX11) (T := TX11) (n := 32) (ci := 11) (v := .ref (ad 101)) hx hb hts nX11 hown hK hP (by omega) h86 rfl 17 (by decide) k6 rfl dX11_day_128 ?_
                  refine lv_iload_n hx hb dX11_day_131 rfl (lv_at hl 4 rfl) ?_
                  obtain ⟨i45, x44, ex44, hf⟩ := ri_e hf
                  refine r_iald hx hb hK hP (by omega) h101 i45 dX11_day_132 ex44 ?_
                  refine lv_goto (tgt := 142) hx hb dX11_day_133 (by decide) ?_
                  obtain rfl := Option.some.inj hf
                  exact jnq28 C H locs ls hP hS hag h86 h89 h91 h94 h100 h101 h103 h104 h107 (lv_sub hl [2, 3, 4, 5, 6, 7, 8, 9, 10, 11, 1, 0] rfl)
          refine key83 _ (fun x16 x17 x18 x19 x20 C H locs ls hP hS hag h86 h89 h91 h94 h100 h101 h103 h104 h107 hl hf => ?_) FU q7 0 0 0 q10.2 C H locs ls hP hS hag h86 h89 h91 h94 h100 h101 h103 h104 h107 (lv_sub hl [6, 7, 8, 9, 5, 4, 3, 2, 1, 0] rfl) hf
          refine lv_iload_n hx hb dX11_day_219 rfl (lv_at hl 3 rfl) ?_
          refine lv_if_ne (tgt := 228) hx hb dX11_day_220 (by decide) (fun c46 => ?_) (fun c46 => ?_)
          · have hf := ie_e c46 hf
            refine lv_iload_n hx hb dX11_day_228 rfl (lv_at hl 3 rfl) ?_
            refine lv_iconst (v := 1) hx hb dX11_day_229 (by decide) ?_
            refine lv_icmp_ne (tgt := 241) hx hb dX11_day_230 (by decide) (fun c47 => ?_) (fun c47 => ?_)
            · have hf := ie_e c47 hf
              refine lv_iload_n hx hb dX11_day_241 rfl (lv_at hl 3 rfl) ?_
              refine lv_iconst (v := 2) hx hb dX11_day_242 (by decide) ?_
              refine lv_icmp_ne (tgt := 251) hx hb dX11_day_243 (by decide) (fun c48 => ?_) (fun c48 => ?_)
              · have hf := ie_e c48 hf
                refine lv_iload hx hb dX11_day_251 (lv_at hl 9 rfl) ?_
                obtain rfl := Option.some.inj hf
                rw [← hQ]
                exact e_iW hx hb hr rfl (tP_i _) hP hS ⟨hag, h103, h104, h107, h86⟩ hlocks dX11_day_253
              · have hf := it_e c48 hf
                refine lv_iload hx hb dX11_day_246 (lv_at hl 5 rfl) ?_
                refine lv_goto (tgt := 253) hx hb dX11_day_248 (by decide) ?_
                obtain rfl := Option.some.inj hf
                rw [← hQ]
                exact e_iW hx hb hr rfl (tP_i _) hP hS ⟨hag, h103, h104, h107, h86⟩ hlocks dX11_day_253
            · have hf := it_e c47 hf
              refine lv_iload hx hb dX11_day_233 (lv_at hl 6 rfl) ?_
              obtain ⟨q49, hq49, hf⟩ := bd_e hf
              refine k_iR (va_runS (As := [.int x16]) (rest := []) ⟨hx, hb, hml, hown, hts⟩ (c_X11_least (l := l) (sz := H.size) (p0 := x16) hq49) (va_cwS 1 hts gX11_day_X11_least rfl rfl rfl (by decide +kernel) ⟨Nat.le_of_ble_eq_true rfl, Nat.le_of_ble_eq_true rfl⟩) preS0 rfl rfl hl.1 rfl (lv_room (Nat.le_of_ble_eq_true rfl)) dX11_day_235 ⟨Nat.le_of_ble_eq_true rfl, Nat.le_of_ble_eq_true rfl⟩) hA hP hS (fun H locs hP hS hbz_q49 => ?_)
              refine lv_goto (tgt := 253) hx hb dX11_day_238 (by decide) ?_
              obtain rfl := Option.some.inj hf
              rw [← hQ]
              exact e_iW hx hb hr rfl (tP_i _) hP hS ⟨hag, h103, h104, h107, h86⟩ hlocks dX11_day_253
          · have hf := it_e c46 hf
            refine lv_iload hx hb dX11_day_223 (lv_at hl 8 rfl) ?_
            refine lv_goto (tgt := 253) hx hb dX11_day_225 (by decide) ?_
            obtain rfl := Option.some.inj hf
            rw [← hQ]
            exact e_iW hx hb hr rfl (tP_i _) hP hS ⟨hag, h103, h104, h107, h86⟩ hlocks dX11_day_253
        · have hf := it_e c8 hf
          refine lv_bipush (v := (-4)) hx hb dX11_day_48 (by decide) ?_
          obtain rfl := Option.some.inj hf
          rw [← hQ]
          exact e_iW hx hb hr rfl (tP_i _) hP hS ⟨hag, h103, h104, h107, h86⟩ hlocks dX11_day_50
      · have hf := it_e c6 hf
        refine lv_bipush (v := (-3)) hx hb dX11_day_34 (by decide) ?_
        obtain rfl := Option.some.inj hf
        rw [← hQ]
        exact e_iW hx hb hr rfl (tP_i _) hP hS ⟨hag, h103, h104, h107, h86⟩ hlocks dX11_day_36
  · have hf := it_e c2 hf
    refine lv_bipush (v := (-2)) hx hb dX11_day_7 (by decide) ?_
    obtain rfl := Option.some.inj hf
    rw [← hQ]
    exact e_iW hx hb hr rfl (tP_i _) hP hS ⟨hag, h103, h104, h107, h86⟩ hlocks dX11_day_9

def LX11_count_4 (m_walk : Nat → Int32) (m_there : Int32) (ko : Int32 → Int32 → Option (Int32)) : Nat → Int32 → Int32 → Option (Int32)
  | 0, _, _ => none
  | n + 1, x1, x2 =>
    if 12 ≤ x2 then
      ko x1 x2
    else
      (f_X11_has m_there x2).bind fun q6 =>
      (if q6 = 0 then
        some (0)
      else
        ri m_walk 12 (x2) fun x11 =>
        some (x11) : Option (Int32)).bind fun q7 =>
      lt ((x1 + q7) : Int32) fun x8 =>
      lt (x2 + 1 : Int32) fun x9 =>
      LX11_count_4 m_walk m_there ko n x8 x9
theorem LX11_count_4_z (m_walk : Nat → Int32) (m_there : Int32) (ko : Int32 → Int32 → Option (Int32)) (x1 : Int32) (x2 : Int32) : LX11_count_4 m_walk m_there ko 0 x1 x2 = none := rfl
theorem LX11_count_4_s (m_walk : Nat → Int32) (m_there : Int32) (ko : Int32 → Int32 → Option (Int32)) (n : Nat) (x1 : Int32) (x2 : Int32) : LX11_count_4 m_walk m_there ko (n + 1) x1 x2 =
    if 12 ≤ x2 then
      ko x1 x2
    else
      (f_X11_has m_there x2).bind fun q6 =>
      (if q6 = 0 then
        some (0)
      else
        ri m_walk 12 (x2) fun x11 =>
        some (x11) : Option (Int32)).bind fun q7 =>
      lt ((x1 + q7) : Int32) fun x8 =>
      lt (x2 + 1 : Int32) fun x9 =>
      LX11_count_4 m_walk m_there ko n x8 x9 := rfl
def f_X11_count (p0 : Int32) (m_walk : Nat → Int32) (m_lik : Nat → Int32) (m_len : Int32) (m_there : Int32) (m_lift : Int32) (m_blank : Int32) (m_fm : Int32) : Option (Int32) :=
  LX11_count_4 m_walk m_there (fun x3 x4 =>
    if p0 = 0 then
      (f_X11_many m_there).bind fun q14 =>
      some (q14)
    else if p0 = 1 then
      some (m_len)
    else if p0 = 2 then
      (f_X11_sources m_lik m_there).bind fun q17 =>
      (f_X11_many q17).bind fun q18 =>
      some (q18)
    else if p0 = 3 then
      some (m_fm)
    else if p0 = 4 then
      some (m_lift)
    else if p0 = 5 then
      some (m_blank)
    else if p0 = 6 then
      some (x3)
    else 
      some ((-3))) FU 0 1
abbrev rmX11_count : Room := { frames := 2, cells := 0, slots := 0, locals := 43 }
set_option maxHeartbeats 4000000 in
set_option maxRecDepth 100000 in
theorem c_X11_count {l : Launch} {D : va_G} {g : Nat → ClassId} {N : Nat} {ad : Nat → Nat} {C : Nat → va_E} {sz : Nat} {m_len : Int32} {m_rm : Int32} {m_there : Int32} {m_lift : Int32} {m_blank : Int32} {m_fm : Int32} {m_at : Int32} {m_pl : Int32} {m_end : Int32} {m_seed : Int32} {m_walk : Nat → Int32} {m_lik : Nat → Int32} {p0 : Int32} {rr : Int32} (hN : 109 ≤ N) (h86 : C 86 = .inr (11, [.ref (ad 87), .int m_len, .ref (ad 88), .int m_rm, .int m_there, .ref (ad 89), .ref (ad 90), .ref (ad 91), .ref (ad 92), .ref (ad 93), .ref (ad 94), .ref (ad 95), .ref (ad 96), .ref (ad 97), .ref (ad 98), .ref (ad 99), .ref (ad 100), .ref (ad 101), .int m_lift, .int m_blank, .ref (ad 102), .int m_fm, .int m_at, .int m_pl, .int m_end, .ref (ad 103), .ref (ad 104), .ref (ad 105), .ref (ad 106), .ref (ad 107), .ref (ad 108), .int m_seed])) (h91 : C 91 = aI g 12 m_walk) (h94 : C 94 = aI g 12 m_lik) (hf : f_X11_count p0 m_walk m_lik m_len m_there m_lift m_blank m_fm = some rr) : Met l yX11_count wsX11_count rmX11_count (PcW D g N ad C sz [.ref (ad 86), .int p0]) (QiR sz tP rr) 0 0 (An sz) := by
  refine Met.ofW (cc := cX11_count) (maxL := 4) (ret := (some .int)) (by decide) rfl ?_
  intro p e s m args below meth c s₁ B hml hv
  obtain ⟨hav, hsz, hK, hP⟩ := hv
  subst hsz
  have hx := B.exec
  have hb := B.bytes
  have hr := B.returns
  have hts := atoms_spec (ws := wsX11_count) B.pre
  have hown : s.vm.findClass RX11 = some m.cls := findClass_of_methodNamed B.named
  have hlocks := B.notSynchronized
  generalize hQ : MQ below (QiR s.heap.size tP rr) args s 0 0 (An s.heap.size) = QQ
  have hS : va_S (An s.heap.size) s.heap s.heap [] := va_S.rf
  have hA : ∀ q, s.heap.size ≤ q → (An s.heap.size) q := fun q h => h
  have k0 := hts (.fieldLink RX11 16 "UpDrainModel" "there" "I") (List.mem_of_getElem? (i := 1) rfl)
  have nX11 : ∀ w ∈ u_ws RX11 TX11 32, w ∈ wsX11_count := fun _ h => List.mem_cons_of_mem _ (List.mem_append_right _ h)
  have k2 := hts (.fieldLink RX11 26 "UpDrainModel" "walks" "[I") (List.mem_of_getElem? (i := 2) rfl)
  have k3 := hts (.fieldLink RX11 93 "UpDrainModel" "length" "I") (List.mem_of_getElem? (i := 3) rfl)
  have k4 := hts (.fieldLink RX11 207 "UpDrainModel" "findMany" "I") (List.mem_of_getElem? (i := 4) rfl)
  have k5 := hts (.fieldLink RX11 143 "UpDrainModel" "lifting" "I") (List.mem_of_getElem? (i := 5) rfl)
  have k6 := hts (.fieldLink RX11 146 "UpDrainModel" "blank" "I") (List.mem_of_getElem? (i := 6) rfl)
  have hE := lg_entry_eq m [.ref (ad 86), .int p0] 4
  rw [← hav] at hE
  rw [hE]
  have hl := lv_entry [.ref (ad 86), .int p0] (n := 4) (Nat.le_of_ble_eq_true rfl)
  generalize (lg_sl [.ref (ad 86), .int p0] ++ List.replicate (4 - (lg_sl [.ref (ad 86), .int p0]).length) Slot.unset).toArray = ls at hl ⊢
  have hl : lv_has ls 4 [(0, .ref (ad 86)), (1, .int p0)] := hl
  clear hE
  unfold f_X11_count at hf
  suffices hgo : ∀ (H : Heap) (locs : List Loc), va_P D vwCl (wd N ad C) H → va_S (An s.heap.size) s.heap H locs → W p l e (headSpec wsX11_count rmX11_count).room s m args below meth c H locs 0 0 QQ (F0 m 0 ls []) from hgo s.heap [] hP hS
  clear hS hP
  intro H locs hP hS
  refine lv_iconst (v := 0) hx hb dX11_count_0 (by decide) ?_
  refine lv_istore_n (lv' := [(2, .int 0), (0, .ref (ad 86)), (1, .int p0)]) hx hb dX11_count_1 rfl hl (by decide) rfl (fun ls hl => ?_)
  refine lv_iconst (v := 1) hx hb dX11_count_2 (by decide) ?_
  refine lv_istore_n (lv' := [(3, .int 1), (2, .int 0), (0, .ref (ad 86)), (1, .int p0)]) hx hb dX11_count_3 rfl hl (by decide) rfl (fun ls hl => ?_)
  have key4 : ∀ (ko : Int32 → Int32 → Option (Int32)), (∀ (x3 : Int32) (x4 : Int32) (C : Nat → va_E) (H : Heap) (locs : List Loc) (ls : Array Slot), va_P D vwCl (wd N ad C) H → va_S (An s.heap.size) s.heap H locs → C 86 = .inr (11, [.ref (ad 87), .int m_len, .ref (ad 88), .int m_rm, .int m_there, .ref (ad 89), .ref (ad 90), .ref (ad 91), .ref (ad 92), .ref (ad 93), .ref (ad 94), .ref (ad 95), .ref (ad 96), .ref (ad 97), .ref (ad 98), .ref (ad 99), .ref (ad 100), .ref (ad 101), .int m_lift, .int m_blank, .ref (ad 102), .int m_fm, .int m_at, .int m_pl, .int m_end, .ref (ad 103), .ref (ad 104), .ref (ad 105), .ref (ad 106), .ref (ad 107), .ref (ad 108), .int m_seed]) → C 91 = aI g 12 m_walk → C 94 = aI g 12 m_lik → lv_has ls 4 [(0, .ref (ad 86)), (1, .int p0), (2, .int x3), (3, .int x4)] → ko x3 x4 = some rr → W p l e (headSpec wsX11_count rmX11_count).room s m args below meth c H locs 0 0 QQ (F0 m 40 ls [])) → ∀ (n : Nat) (x1 : Int32) (x2 : Int32) (C : Nat → va_E) (H : Heap) (locs : List Loc) (ls : Array Slot), va_P D vwCl (wd N ad C) H → va_S (An s.heap.size) s.heap H locs → C 86 = .inr (11, [.ref (ad 87), .int m_len, .ref (ad 88), .int m_rm, .int m_there, .ref (ad 89), .ref (ad 90), .ref (ad 91), .ref (ad 92), .ref (ad 93), .ref (ad 94), .ref (ad 95), .ref (ad 96), .ref (ad 97), .ref (ad 98), .ref (ad 99), .ref (ad 100), .ref (ad 101), .int m_lift, .int m_blank, .ref (ad 102), .int m_fm, .int m_at, .int m_pl, .int m_end, .ref (ad 103), .ref (ad 104), .ref (ad 105), .ref (ad 106), .ref (ad 107), .ref (ad 108), .int m_seed]) → C 91 = aI g 12 m_walk → C 94 = aI g 12 m_lik → lv_has ls 4 [(0, .ref (ad 86)), (1, .int p0), (2, .int x1), (3, .int x2)] → LX11_count_4 m_walk m_there ko n x1 x2 = some rr → W p l e (headSpec wsX11_count rmX11_count).room s m args below meth c H locs 0 0 QQ (F0 m 4 ls []) := by
    intro ko hko n
    induction n with
    | zero =>
      intro x1 x2 C H locs ls hP hS h86 h91 h94 hl hf
      rw [LX11_count_4_z] at hf
      cases hf
    | succ n ih =>
      intro x1 x2 C H locs ls hP hS h86 h91 h94 hl hf
      rw [LX11_count_4_s] at hf
      refine lv_iload_n hx hb dX11_count_4 rfl (lv_at hl 3 rfl) ?_
      refine lv_bipush (v := 12) hx hb dX11_count_5 (by decide) ?_
      refine lv_icmp_ge (tgt := 40) hx hb dX11_count_7 (by decide) (fun c5 => ?_) (fun c5 => ?_)
      · have hf := it_e c5 hf
        exact hko x1 x2 C H locs ls hP hS h86 h91 h94 (lv_sub hl [0, 1, 2, 3] rfl) hf
      · have hf := ie_e c5 hf
        refine lv_iload_n hx hb dX11_count_10 rfl (lv_at hl 2 rfl) ?_
        refine lv_aload_n hx hb dX11_count_11 rfl (lv_at hl 0 rfl) ?_
        refine r_get (own := RX11) (T := TX11) (n := 32) (ci := 11) (v := .int m_there) hx hb hts nX11 hown hK hP (by omega) h86 rfl 4 (by decide) k0 rfl dX11_count_12 ?_
        refine lv_iload_n hx hb dX11_count_15 rfl (lv_at hl 3 rfl) ?_
        obtain ⟨q6, hq6, hf⟩ := bd_e hf
        refine k_iR (va_runS (As := [.int m_there, .int x2]) (rest := [.int x1]) ⟨hx, hb, hml, hown, hts⟩ (c_X11_has (l := l) (sz := H.size) (p0 := m_there) (p1 := x2) hq6) (va_cwS 2 hts gX11_count_X11_has rfl rfl rfl (by decide +kernel) ⟨Nat.le_of_ble_eq_true rfl, Nat.le_of_ble_eq_true rfl⟩) preS0 rfl rfl hl.1 rfl (lv_room (Nat.le_of_ble_eq_true rfl)) dX11_count_16 ⟨Nat.le_of_ble_eq_true rfl, Nat.le_of_ble_eq_true rfl⟩) hA hP hS (fun H locs hP hS hbz_q6 => ?_)
        obtain ⟨q7, htq7, hf⟩ := bd_e hf
        have jnq7 : ∀ (C : Nat → va_E) (H : Heap) (locs : List Loc) (ls : Array Slot), va_P D vwCl (wd N ad C) H → va_S (An s.heap.size) s.heap H locs → C 86 = .inr (11, [.ref (ad 87), .int m_len, .ref (ad 88), .int m_rm, .int m_there, .ref (ad 89), .ref (ad 90), .ref (ad 91), .ref (ad 92), .ref (ad 93), .ref (ad 94), .ref (ad 95), .ref (ad 96), .ref (ad 97), .ref (ad 98), .ref (ad 99), .ref (ad 100), .ref (ad 101), .int m_lift, .int m_blank, .ref (ad 102), .int m_fm, .int m_at, .int m_pl, .int m_end, .ref (ad 103), .ref (ad 104), .ref (ad 105), .ref (ad 106), .ref (ad 107), .ref (ad 108), .int m_seed]) → C 91 = aI g 12 m_walk → C 94 = aI g 12 m_lik → lv_has ls 4 [(0, .ref (ad 86)), (1, .int p0), (2, .int x1), (3, .int x2)] → W p l e (headSpec wsX11_count rmX11_count).room s m args below meth c H locs 0 0 QQ (F0 m 32 ls [.int q7, .int x1]) := by
          intro C H locs ls hP hS h86 h91 h94 hl
          refine lv_iadd hx hb dX11_count_32 ?_
          obtain ⟨x8, ex8, hf⟩ := lt_e hf
          refine tp_i ex8 ?_
          refine lv_istore_n (lv' := [(2, .int x8), (0, .ref (ad 86)), (1, .int p0), (3, .int x2)]) hx hb dX11_count_33 rfl hl (by decide) rfl (fun ls hl => ?_)
          obtain ⟨x9, ex9, hf⟩ := lt_e hf
          refine lv_iinc (v := x9) (lv' := [(3, .int x9), (2, .int x8), (0, .ref (ad 86)), (1, .int p0)]) hx hb dX11_count_34 hl (k := 3) rfl (by rw [ex9]; rfl) (by decide) rfl (fun ls hl => ?_)
          refine lv_goto (tgt := 4) hx hb dX11_count_37 (by decide) ?_
          exact ih x8 x9 C H locs ls hP hS h86 h91 h94 (lv_sub hl [2, 3, 1, 0] rfl) hf
        clear hf
        have hf := htq7
        refine lv_if_eq (tgt := 31) hx hb dX11_count_19 (by decide) (fun c10 => ?_) (fun c10 => ?_)
        · have hf := it_e c10 hf
          refine lv_iconst (v := 0) hx hb dX11_count_31 (by decide) ?_
          obtain rfl := Option.some.inj hf
          exact jnq7 C H locs ls hP hS h86 h91 h94 (lv_sub hl [0, 1, 2, 3] rfl)
        · have hf := ie_e c10 hf
          refine lv_aload_n hx hb dX11_count_22 rfl (lv_at hl 0 rfl) ?_
          refine r_get (own := RX11) (T := TX11) (n := 32) (ci := 11) (v := .ref (ad 91)) hx hb hts nX11 hown hK hP (by omega) h86 rfl 7 (by decide) k2 rfl dX11_count_23 ?_
          refine lv_iload_n hx hb dX11_count_26 rfl (lv_at hl 3 rfl) ?_
          obtain ⟨i12, x11, ex11, hf⟩ := ri_e hf
          refine r_iald hx hb hK hP (by omega) h91 i12 dX11_count_27 ex11 ?_
          refine lv_goto (tgt := 32) hx hb dX11_count_28 (by decide) ?_
          obtain rfl := Option.some.inj hf
          exact jnq7 C H locs ls hP hS h86 h91 h94 (lv_sub hl [0, 1, 2, 3] rfl)
  refine key4 _ (fun x3 x4 C H locs ls hP hS h86 h91 h94 hl hf => ?_) FU 0 1 C H locs ls hP hS h86 h91 h94 (lv_sub hl [2, 3, 1, 0] rfl) hf
  refine lv_iload_n hx hb dX11_count_40 rfl (lv_at hl 1 rfl) ?_
  by_cases c13 : p0 = 0
  · have hf := it_e c13 hf
    refine lv_tableIn (tgt := 84) hx hb dX11_count_41 (by rw [c13]; decide) (by rw [c13]; decide) (by rw [c13]; rfl) (by decide) ?_
    refine lv_aload_n hx hb dX11_count_84 rfl (lv_at hl 0 rfl) ?_
    refine r_get (own := RX11) (T := TX11) (n := 32) (ci := 11) (v := .int m_there) hx hb hts nX11 hown hK hP (by omega) h86 rfl 4 (by decide) k0 rfl dX11_count_85 ?_
    obtain ⟨q14, hq14, hf⟩ := bd_e hf
    refine k_iR (va_runS (As := [.int m_there]) (rest := []) ⟨hx, hb, hml, hown, hts⟩ (c_X11_many (l := l) (sz := H.size) (p0 := m_there) hq14) (va_cwS 1 hts gX11_count_X11_many rfl rfl rfl (by decide +kernel) ⟨Nat.le_of_ble_eq_true rfl, Nat.le_of_ble_eq_true rfl⟩) preS0 rfl rfl hl.1 rfl (lv_room (Nat.le_of_ble_eq_true rfl)) dX11_count_88 ⟨Nat.le_of_ble_eq_true rfl, Nat.le_of_ble_eq_true rfl⟩) hA hP hS (fun H locs hP hS hbz_q14 => ?_)
    obtain rfl := Option.some.inj hf
    rw [← hQ]
    exact e_iR hx hb hr rfl (tP_i _) hS hlocks dX11_count_91
  have hf := ie_e c13 hf
  by_cases c15 : p0 = 1
  · have hf := it_e c15 hf
    refine lv_tableIn (tgt := 92) hx hb dX11_count_41 (by rw [c15]; decide) (by rw [c15]; decide) (by rw [c15]; rfl) (by decide) ?_
    refine lv_aload_n hx hb dX11_count_92 rfl (lv_at hl 0 rfl) ?_
    refine r_get (own := RX11) (T := TX11) (n := 32) (ci := 11) (v := .int m_len) hx hb hts nX11 hown hK hP (by omega) h86 rfl 1 (by decide) k3 rfl dX11_count_93 ?_
    obtain rfl := Option.some.inj hf
    rw [← hQ]
    exact e_iR hx hb hr rfl (tP_i _) hS hlocks dX11_count_96
  have hf := ie_e c15 hf
  by_cases c16 : p0 = 2
  · have hf := it_e c16 hf
    refine lv_tableIn (tgt := 97) hx hb dX11_count_41 (by rw [c16]; decide) (by rw [c16]; decide) (by rw [c16]; rfl) (by decide) ?_
    refine lv_aload_n hx hb dX11_count_97 rfl (lv_at hl 0 rfl) ?_
    obtain ⟨q17, hq17, hf⟩ := bd_e hf
    refine k_iR (va_runV (C := RX11) (As := []) (rest := []) ⟨hx, hb, hml, hown, hts⟩ (c_X11_sources (l := l) (sz := H.size)  hN h86 h94 hq17) (cwV 0 hts gX11_count_X11_sources rfl rfl rfl (by decide +kernel) ⟨Nat.le_of_ble_eq_true rfl, Nat.le_of_ble_eq_true rfl⟩) (preV_of hK hP (by omega) h86 rfl) rfl rfl hl.1 rfl (lv_room (Nat.le_of_ble_eq_true rfl)) dX11_count_98 ⟨Nat.le_of_ble_eq_true rfl, Nat.le_of_ble_eq_true rfl⟩) hA hP hS (fun H locs hP hS hbz_q17 => ?_)
    obtain ⟨q18, hq18, hf⟩ := bd_e hf
    refine k_iR (va_runS (As := [.int q17]) (rest := []) ⟨hx, hb, hml, hown, hts⟩ (c_X11_many (l := l) (sz := H.size) (p0 := q17) hq18) (va_cwS 1 hts gX11_count_X11_many rfl rfl rfl (by decide +kernel) ⟨Nat.le_of_ble_eq_true rfl, Nat.le_of_ble_eq_true rfl⟩) preS0 rfl rfl hl.1 rfl (lv_room (Nat.le_of_ble_eq_true rfl)) dX11_count_101 ⟨Nat.le_of_ble_eq_true rfl, Nat.le_of_ble_eq_true rfl⟩) hA hP hS (fun H locs hP hS hbz_q18 => ?_)
    obtain rfl := Option.some.inj hf
    rw [← hQ]
    exact e_iR hx hb hr rfl (tP_i _) hS hlocks dX11_count_104
  have hf := ie_e c16 hf
  by_cases c19 : p0 = 3
  · have hf := it_e c19 hf
    refine lv_tableIn (tgt := 105) hx hb dX11_count_41 (by rw [c19]; decide) (by rw [c19]; decide) (by rw [c19]; rfl) (by decide) ?_
    refine lv_aload_n hx hb dX11_count_105 rfl (lv_at hl 0 rfl) ?_
    refine r_get (own := RX11) (T := TX11) (n := 32) (ci := 11) (v := .int m_fm) hx hb hts nX11 hown hK hP (by omega) h86 rfl 21 (by decide) k4 rfl dX11_count_106 ?_
    obtain rfl := Option.some.inj hf
    rw [← hQ]
    exact e_iR hx hb hr rfl (tP_i _) hS hlocks dX11_count_109
  have hf := ie_e c19 hf
  by_cases c20 : p0 = 4
  · have hf := it_e c20 hf
    refine lv_tableIn (tgt := 110) hx hb dX11_count_41 (by rw [c20]; decide) (by rw [c20]; decide) (by rw [c20]; rfl) (by decide) ?_
    refine lv_aload_n hx hb dX11_count_110 rfl (lv_at hl 0 rfl) ?_
    refine r_get (own := RX11) (T := TX11) (n := 32) (ci := 11) (v := .int m_lift) hx hb hts nX11 hown hK hP (by omega) h86 rfl 18 (by decide) k5 rfl dX11_count_111 ?_
    obtain rfl := Option.some.inj hf
    rw [← hQ]
    exact e_iR hx hb hr rfl (tP_i _) hS hlocks dX11_count_114
  have hf := ie_e c20 hf
  by_cases c21 : p0 = 5
  · have hf := it_e c21 hf
    refine lv_tableIn (tgt := 115) hx hb dX11_count_41 (by rw [c21]; decide) (by rw [c21]; decide) (by rw [c21]; rfl) (by decide) ?_
    refine lv_aload_n hx hb dX11_count_115 rfl (lv_at hl 0 rfl) ?_
    refine r_get (own := RX11) (T := TX11) (n := 32) (ci := 11) (v := .int m_blank) hx hb hts nX11 hown hK hP (by omega) h86 rfl 19 (by decide) k6 rfl dX11_count_116 ?_
    obtain rfl := Option.some.inj hf
    rw [← hQ]
    exact e_iR hx hb hr rfl (tP_i _) hS hlocks dX11_count_119
  have hf := ie_e c21 hf
  by_cases c22 : p0 = 6
  · have hf := it_e c22 hf
    refine lv_tableIn (tgt := 120) hx hb dX11_count_41 (by rw [c22]; decide) (by rw [c22]; decide) (by rw [c22]; rfl) (by decide) ?_
    refine lv_iload_n hx hb dX11_count_120 rfl (lv_at hl 2 rfl) ?_
    obtain rfl := Option.some.inj hf
    rw [← hQ]
    exact e_iR hx hb hr rfl (tP_i _) hS hlocks dX11_count_121
  have hf := ie_e c22 hf
  have hsw : Int32.toInt p0 < 0 ∨ 6 < Int32.toInt p0 := by
    have qc13 := ne_toInt c13
    rw [show Int32.toInt 0 = 0 from rfl] at qc13
    have qc15 := ne_toInt c15
    rw [show Int32.toInt 1 = 1 from rfl] at qc15
    have qc16 := ne_toInt c16
    rw [show Int32.toInt 2 = 2 from rfl] at qc16
    have qc19 := ne_toInt c19
    rw [show Int32.toInt 3 = 3 from rfl] at qc19
    have qc20 := ne_toInt c20
    rw [show Int32.toInt 4 = 4 from rfl] at qc20
    have qc21 := ne_toInt c21
    rw [show Int32.toInt 5 = 5 from rfl] at qc21
    have qc22 := ne_toInt c22
    rw [show Int32.toInt 6 = 6 from rfl] at qc22
    omega
  refine lv_tableOut (tgt := 122) hx hb dX11_count_41 hsw (by decide) ?_
  refine lv_bipush (v := (-3)) hx hb dX11_count_122 (by decide) ?_
  obtain rfl := Option.some.inj hf
  rw [← hQ]
  exact e_iR hx hb hr rfl (tP_i _) hS hlocks dX11_count_124

