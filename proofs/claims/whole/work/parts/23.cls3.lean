def LX3_fewestToHang_23 (t_there : Int32) (q1 : Int32 × (Nat → Int32)) (ko : Int32 → Int32 → Int32 → Option (Int32 × (Nat → Int32))) : Nat → Int32 → Int32 → Int32 → Option (Int32 × (Nat → Int32))
  | 0, _, _, _ => none
  | n + 1, x3, x4, x5 =>
    if t_there ≤ x5 then
      ko x3 x4 x5
    else
      (if (x5 &&& (t_there ^^^ (-1))) = 0 then
        some (1)
      else
        some (0) : Option (Int32)).bind fun q10 =>
      (if q10 = 0 then
        some (x3, x4)
      else
        (f_J6_bitCount_0f7a4 x5).bind fun q14 =>
        if x4 ≤ q14 then
          some (x3, x4)
        else
          (f_X3_tellsApart x5 q1.1 q1.2).bind fun q16 =>
          if q16 = 0 then
            some (x3, x4)
          else
            (f_J6_bitCount_0f7a4 x5).bind fun q18 =>
            some (x5, q18) : Option (Int32 × Int32)).bind fun q11 =>
      lt (x5 + 1 : Int32) fun x12 =>
      LX3_fewestToHang_23 t_there q1 ko n q11.1 q11.2 x12
theorem LX3_fewestToHang_23_z (t_there : Int32) (q1 : Int32 × (Nat → Int32)) (ko : Int32 → Int32 → Int32 → Option (Int32 × (Nat → Int32))) (x3 : Int32) (x4 : Int32) (x5 : Int32) : LX3_fewestToHang_23 t_there q1 ko 0 x3 x4 x5 = none := rfl
theorem LX3_fewestToHang_23_s (t_there : Int32) (q1 : Int32 × (Nat → Int32)) (ko : Int32 → Int32 → Int32 → Option (Int32 × (Nat → Int32))) (n : Nat) (x3 : Int32) (x4 : Int32) (x5 : Int32) : LX3_fewestToHang_23 t_there q1 ko (n + 1) x3 x4 x5 =
    if t_there ≤ x5 then
      ko x3 x4 x5
    else
      (if (x5 &&& (t_there ^^^ (-1))) = 0 then
        some (1)
      else
        some (0) : Option (Int32)).bind fun q10 =>
      (if q10 = 0 then
        some (x3, x4)
      else
        (f_J6_bitCount_0f7a4 x5).bind fun q14 =>
        if x4 ≤ q14 then
          some (x3, x4)
        else
          (f_X3_tellsApart x5 q1.1 q1.2).bind fun q16 =>
          if q16 = 0 then
            some (x3, x4)
          else
            (f_J6_bitCount_0f7a4 x5).bind fun q18 =>
            some (x5, q18) : Option (Int32 × Int32)).bind fun q11 =>
      lt (x5 + 1 : Int32) fun x12 =>
      LX3_fewestToHang_23 t_there q1 ko n q11.1 q11.2 x12 := rfl
def f_X3_fewestToHang (p0 : Int32) (t_down : Nat → Int32) (t_pac : Nat → Int32) (t_there : Int32) (w_src : Int32) (w_over : Nat → Int32) (l_unl : Nat → Int32) : Option (Int32 × (Nat → Int32)) :=
  (f_X3_pairsFartherThan p0 t_down t_pac w_src w_over l_unl).bind fun q1 =>
  (f_J6_bitCount_0f7a4 t_there).bind fun q2 =>
  LX3_fewestToHang_23 t_there q1 (fun x6 x7 x8 =>
    some (x6, q1.2)) FU t_there q2 0
abbrev rmX3_fewestToHang : Room := { frames := 3, cells := 0, slots := 0, locals := 69 }
set_option maxHeartbeats 4000000 in
set_option maxRecDepth 100000 in
theorem c_X3_fewestToHang {l : Launch} {D : va_G} {g : Nat → ClassId} {ad : Nat → Nat} {C : Nat → va_E} {sz : Nat} {t_there : Int32} {t_lift : Int32} {t_none : Int32} {t_down : Nat → Int32} {t_pac : Nat → Int32} {w_src : Int32} {w_over : Nat → Int32} {l_unl : Nat → Int32} {p0 : Int32} {rr : Int32 × (Nat → Int32)} (hI : Inj 109 ad) (h5 : C 5 = .inr (7, [.ref (ad 6), .ref (ad 7), .ref (ad 8), .ref (ad 9), .ref (ad 10), .ref (ad 11), .ref (ad 12), .ref (ad 13), .ref (ad 14), .ref (ad 15), .ref (ad 16), .ref (ad 17), .ref (ad 18), .int t_there, .int t_lift, .int t_none])) (h6 : C 6 = aI g 12 t_down) (h8 : C 8 = aI g 12 t_pac) (h19 : C 19 = .inr (9, [.ref (ad 5), .ref (ad 20), .int w_src])) (h20 : C 20 = aI g 12 w_over) (h81 : C 81 = .inr (3, [.ref (ad 5), .ref (ad 19), .ref (ad 82), .ref (ad 83)])) (h83 : C 83 = aI g 66 l_unl) (hf : f_X3_fewestToHang p0 t_down t_pac t_there w_src w_over l_unl = some rr) : Met l yX3_fewestToHang wsX3_fewestToHang rmX3_fewestToHang (PcW D g 109 ad C sz [.ref (ad 81), .int p0]) (QiW D 109 ad sz tP rr.1 (fun C' => (∀ i : Nat, i ≠ 83 → C' i = C i) ∧ (C' 83 = aI g 66 rr.2))) 0 0 (Aw 109 ad sz) := by
  refine Met.ofW (cc := cX3_fewestToHang) (maxL := 7) (ret := (some .int)) (by decide) rfl ?_
  intro p e s m args below meth c s₁ B hml hv
  obtain ⟨hav, hsz, hK, hP⟩ := hv
  subst hsz
  have hx := B.exec
  have hb := B.bytes
  have hr := B.returns
  have hts := atoms_spec (ws := wsX3_fewestToHang) B.pre
  have hown : s.vm.findClass RX3 = some m.cls := findClass_of_methodNamed B.named
  have hlocks := B.notSynchronized
  generalize hQ : MQ below (QiW D 109 ad s.heap.size tP rr.1 (fun C' => (∀ i : Nat, i ≠ 83 → C' i = C i) ∧ (C' 83 = aI g 66 rr.2))) args s 0 0 (Aw 109 ad s.heap.size) = QQ
  have hS : va_S (Aw 109 ad s.heap.size) s.heap s.heap [] := va_S.rf
  have hA : ∀ q, s.heap.size ≤ q → (Aw 109 ad s.heap.size) q := fun q h => Or.inr h
  have hAd : ∀ j : Nat, j < 109 → (Aw 109 ad s.heap.size) (ad j) := fun j h => Or.inl ⟨j, h, rfl⟩
  obtain ⟨C0, hC0⟩ : ∃ C0 : Nat → va_E, C0 = C := ⟨_, rfl⟩
  have hag : ∀ i : Nat, i ≠ 83 → C i = C0 i := fun i _ => by rw [hC0]
  rw [← hC0] at hQ
  have k0 := hts (.fieldLink RX3 18 "UpDrain$Lids" "plan" "LUpDrain$Town;") (List.mem_of_getElem? (i := 1) rfl)
  have nX3 : ∀ w ∈ u_ws RX3 TX3 4, w ∈ wsX3_fewestToHang := fun _ h => List.mem_cons_of_mem _ (List.mem_append_left _ (List.mem_append_left _ (List.mem_append_right _ h)))
  have k2 := nf_38 (A := args) hK
  have nX7 : ∀ w ∈ u_ws RX7 TX7 16, w ∈ wsX3_fewestToHang := fun _ h => List.mem_cons_of_mem _ (List.mem_append_left _ (List.mem_append_right _ h))
  have hE := lg_entry_eq m [.ref (ad 81), .int p0] 7
  rw [← hav] at hE
  rw [hE]
  have hl := lv_entry [.ref (ad 81), .int p0] (n := 7) (Nat.le_of_ble_eq_true rfl)
  generalize (lg_sl [.ref (ad 81), .int p0] ++ List.replicate (7 - (lg_sl [.ref (ad 81), .int p0]).length) Slot.unset).toArray = ls at hl ⊢
  have hl : lv_has ls 7 [(0, .ref (ad 81)), (1, .int p0)] := hl
  clear hE
  unfold f_X3_fewestToHang at hf
  suffices hgo : ∀ (H : Heap) (locs : List Loc), va_P D vwCl (wd 109 ad C) H → va_S (Aw 109 ad s.heap.size) s.heap H locs → W p l e (headSpec wsX3_fewestToHang rmX3_fewestToHang).room s m args below meth c H locs 0 0 QQ (F0 m 0 ls []) from hgo s.heap [] hP hS
  clear hS hP
  intro H locs hP hS
  refine lv_aload_n hx hb dX3_fewestToHang_0 rfl (lv_at hl 0 rfl) ?_
  refine lv_iload_n hx hb dX3_fewestToHang_1 rfl (lv_at hl 1 rfl) ?_
  obtain ⟨q1, hq1, hf⟩ := bd_e hf
  refine k_iW (va_runV (C := RX3) (As := [.int p0]) (rest := []) ⟨hx, hb, hml, hown, hts⟩ (c_X3_pairsFartherThan (l := l) (sz := H.size) (p0 := p0) hI h5 h6 h8 h19 h20 h81 h83 hq1) (cwV 1 hts gX3_fewestToHang_X3_pairsFartherThan rfl rfl rfl (by decide +kernel) ⟨Nat.le_of_ble_eq_true rfl, Nat.le_of_ble_eq_true rfl⟩) (preV_of hK hP (by decide) h81 rfl) rfl rfl hl.1 rfl (lv_room (Nat.le_of_ble_eq_true rfl)) dX3_fewestToHang_2 ⟨Nat.le_refl _, Nat.le_refl _⟩) hA hAd hS (fun C H locs hP hS hpo hbz_q1 => ?_)
  obtain ⟨he, h83⟩ := hpo
  have hag : ∀ i : Nat, i ≠ 83 → C i = C0 i := fun i h => (he i (by omega)).trans (hag i h)
  have h5 := (he 5 (by decide)).trans h5
  have h6 := (he 6 (by decide)).trans h6
  have h8 := (he 8 (by decide)).trans h8
  have h19 := (he 19 (by decide)).trans h19
  have h20 := (he 20 (by decide)).trans h20
  have h81 := (he 81 (by decide)).trans h81
  refine lv_istore_n (lv' := [(2, .int q1.1), (0, .ref (ad 81)), (1, .int p0)]) hx hb dX3_fewestToHang_5 rfl hl (by decide) rfl (fun ls hl => ?_)
  refine lv_aload_n hx hb dX3_fewestToHang_6 rfl (lv_at hl 1 rfl) ?_
  refine r_get (own := RX3) (T := TX3) (n := 4) (ci := 3) (v := .ref (ad 5)) hx hb hts nX3 hown hK hP (by decide) h81 rfl 0 (by decide) k0 rfl dX3_fewestToHang_7 ?_
  refine r_getN (own := RX3) (T := TX7) (n := 16) (ci := 7) (v := .int t_there) hx hb hts nX7 hown hK hP (by decide) h5 rfl 13 (by decide) k2 rfl dX3_fewestToHang_10 ?_
  refine lv_istore_n (lv' := [(3, .int t_there), (2, .int q1.1), (0, .ref (ad 81)), (1, .int p0)]) hx hb dX3_fewestToHang_13 rfl hl (by decide) rfl (fun ls hl => ?_)
  refine lv_iload_n hx hb dX3_fewestToHang_14 rfl (lv_at hl 0 rfl) ?_
  obtain ⟨q2, hq2, hf⟩ := bd_e hf
  refine k_iR (va_runS (As := [.int t_there]) (rest := []) ⟨hx, hb, hml, hown, hts⟩ (c_J6_bitCount_0f7a4 (l := l) (sz := H.size) (p0 := t_there) hq2) (va_cwS 1 hts gX3_fewestToHang_J6_bitCount_0f7a4 rfl rfl rfl (by decide +kernel) ⟨Nat.le_of_ble_eq_true rfl, Nat.le_of_ble_eq_true rfl⟩) preS0 rfl rfl hl.1 rfl (lv_room (Nat.le_of_ble_eq_true rfl)) dX3_fewestToHang_15 ⟨Nat.le_refl _, Nat.le_refl _⟩) hA hP hS (fun H locs hP hS hbz_q2 => ?_)
  refine lv_istore (lv' := [(4, .int q2), (3, .int t_there), (2, .int q1.1), (0, .ref (ad 81)), (1, .int p0)]) hx hb dX3_fewestToHang_18 hl (by decide) rfl (fun ls hl => ?_)
  refine lv_iconst (v := 0) hx hb dX3_fewestToHang_20 (by decide) ?_
  refine lv_istore (lv' := [(5, .int 0), (4, .int q2), (3, .int t_there), (2, .int q1.1), (0, .ref (ad 81)), (1, .int p0)]) hx hb dX3_fewestToHang_21 hl (by decide) rfl (fun ls hl => ?_)
  have key23 : ∀ (ko : Int32 → Int32 → Int32 → Option (Int32 × (Nat → Int32))), (∀ (x6 : Int32) (x7 : Int32) (x8 : Int32) (C : Nat → va_E) (H : Heap) (locs : List Loc) (ls : Array Slot), va_P D vwCl (wd 109 ad C) H → va_S (Aw 109 ad s.heap.size) s.heap H locs → (∀ i : Nat, i ≠ 83 → C i = C0 i) → C 5 = .inr (7, [.ref (ad 6), .ref (ad 7), .ref (ad 8), .ref (ad 9), .ref (ad 10), .ref (ad 11), .ref (ad 12), .ref (ad 13), .ref (ad 14), .ref (ad 15), .ref (ad 16), .ref (ad 17), .ref (ad 18), .int t_there, .int t_lift, .int t_none]) → C 6 = aI g 12 t_down → C 8 = aI g 12 t_pac → C 19 = .inr (9, [.ref (ad 5), .ref (ad 20), .int w_src]) → C 20 = aI g 12 w_over → C 81 = .inr (3, [.ref (ad 5), .ref (ad 19), .ref (ad 82), .ref (ad 83)]) → C 83 = aI g 66 q1.2 → lv_has ls 7 [(0, .ref (ad 81)), (1, .int p0), (2, .int q1.1), (3, .int x6), (4, .int x7), (5, .int x8)] → ko x6 x7 x8 = some rr → W p l e (headSpec wsX3_fewestToHang rmX3_fewestToHang).room s m args below meth c H locs 0 0 QQ (F0 m 98 ls [])) → ∀ (n : Nat) (x3 : Int32) (x4 : Int32) (x5 : Int32) (C : Nat → va_E) (H : Heap) (locs : List Loc) (ls : Array Slot), va_P D vwCl (wd 109 ad C) H → va_S (Aw 109 ad s.heap.size) s.heap H locs → (∀ i : Nat, i ≠ 83 → C i = C0 i) → C 5 = .inr (7, [.ref (ad 6), .ref (ad 7), .ref (ad 8), .ref (ad 9), .ref (ad 10), .ref (ad 11), .ref (ad 12), .ref (ad 13), .ref (ad 14), .ref (ad 15), .ref (ad 16), .ref (ad 17), .ref (ad 18), .int t_there, .int t_lift, .int t_none]) → C 6 = aI g 12 t_down → C 8 = aI g 12 t_pac → C 19 = .inr (9, [.ref (ad 5), .ref (ad 20), .int w_src]) → C 20 = aI g 12 w_over → C 81 = .inr (3, [.ref (ad 5), .ref (ad 19), .ref (ad 82), .ref (ad 83)]) → C 83 = aI g 66 q1.2 → lv_has ls 7 [(0, .ref (ad 81)), (1, .int p0), (2, .int q1.1), (3, .int x3), (4, .int x4), (5, .int x5)] → LX3_fewestToHang_23 t_there q1 ko n x3 x4 x5 = some rr → W p l e (headSpec wsX3_fewestToHang rmX3_fewestToHang).room s m args below meth c H locs 0 0 QQ (F0 m 23 ls []) := by
    intro ko hko n
    induction n with
    | zero =>
      intro x3 x4 x5 C H locs ls hP hS hag h5 h6 h8 h19 h20 h81 h83 hl hf
      rw [LX3_fewestToHang_23_z] at hf
      cases hf
    | succ n ih =>
      intro x3 x4 x5 C H locs ls hP hS hag h5 h6 h8 h19 h20 h81 h83 hl hf
      rw [LX3_fewestToHang_23_s] at hf
      refine lv_iload hx hb dX3_fewestToHang_23 (lv_at hl 5 rfl) ?_
      refine lv_aload_n hx hb dX3_fewestToHang_25 rfl (lv_at hl 0 rfl) ?_
      refine r_get (own := RX3) (T := TX3) (n := 4) (ci := 3) (v := .ref (ad 5)) hx hb hts nX3 hown hK hP (by decide) h81 rfl 0 (by decide) k0 rfl dX3_fewestToHang_26 ?_
      refine r_getN (own := RX3) (T := TX7) (n := 16) (ci := 7) (v := .int t_there) hx hb hts nX7 hown hK hP (by decide) h5 rfl 13 (by decide) k2 rfl dX3_fewestToHang_29 ?_
      refine lv_icmp_ge (tgt := 98) hx hb dX3_fewestToHang_32 (by decide) (fun c9 => ?_) (fun c9 => ?_)
      · have hf := it_e c9 hf
        exact hko x3 x4 x5 C H locs ls hP hS hag h5 h6 h8 h19 h20 h81 h83 (lv_sub hl [0, 1, 2, 3, 4, 5] rfl) hf
      · have hf := ie_e c9 hf
        refine lv_iload hx hb dX3_fewestToHang_35 (lv_at hl 5 rfl) ?_
        refine lv_aload_n hx hb dX3_fewestToHang_37 rfl (lv_at hl 0 rfl) ?_
        refine r_get (own := RX3) (T := TX3) (n := 4) (ci := 3) (v := .ref (ad 5)) hx hb hts nX3 hown hK hP (by decide) h81 rfl 0 (by decide) k0 rfl dX3_fewestToHang_38 ?_
        refine r_getN (own := RX3) (T := TX7) (n := 16) (ci := 7) (v := .int t_there) hx hb hts nX7 hown hK hP (by decide) h5 rfl 13 (by decide) k2 rfl dX3_fewestToHang_41 ?_
        refine lv_iconst (v := (-1)) hx hb dX3_fewestToHang_44 (by decide) ?_
        refine lv_ixor hx hb dX3_fewestToHang_45 ?_
        refine lv_iand hx hb dX3_fewestToHang_46 ?_
        obtain ⟨q10, htq10, hf⟩ := bd_e hf
        have jnq10 : ∀ (C : Nat → va_E) (H : Heap) (locs : List Loc) (ls : Array Slot), va_P D vwCl (wd 109 ad C) H → va_S (Aw 109 ad s.heap.size) s.heap H locs → (∀ i : Nat, i ≠ 83 → C i = C0 i) → C 5 = .inr (7, [.ref (ad 6), .ref (ad 7), .ref (ad 8), .ref (ad 9), .ref (ad 10), .ref (ad 11), .ref (ad 12), .ref (ad 13), .ref (ad 14), .ref (ad 15), .ref (ad 16), .ref (ad 17), .ref (ad 18), .int t_there, .int t_lift, .int t_none]) → C 6 = aI g 12 t_down → C 8 = aI g 12 t_pac → C 19 = .inr (9, [.ref (ad 5), .ref (ad 20), .int w_src]) → C 20 = aI g 12 w_over → C 81 = .inr (3, [.ref (ad 5), .ref (ad 19), .ref (ad 82), .ref (ad 83)]) → C 83 = aI g 66 q1.2 → lv_has ls 7 [(0, .ref (ad 81)), (1, .int p0), (2, .int q1.1), (3, .int x3), (4, .int x4), (5, .int x5)] → W p l e (headSpec wsX3_fewestToHang rmX3_fewestToHang).room s m args below meth c H locs 0 0 QQ (F0 m 55 ls [.int q10]) := by
          intro C H locs ls hP hS hag h5 h6 h8 h19 h20 h81 h83 hl
          refine lv_istore (lv' := [(6, .int q10), (0, .ref (ad 81)), (1, .int p0), (2, .int q1.1), (3, .int x3), (4, .int x4), (5, .int x5)]) hx hb dX3_fewestToHang_55 hl (by decide) rfl (fun ls hl => ?_)
          refine lv_iload hx hb dX3_fewestToHang_57 (lv_at hl 0 rfl) ?_
          obtain ⟨q11, htq11, hf⟩ := bd_e hf
          have jnq11 : ∀ (C : Nat → va_E) (H : Heap) (locs : List Loc) (ls : Array Slot), va_P D vwCl (wd 109 ad C) H → va_S (Aw 109 ad s.heap.size) s.heap H locs → (∀ i : Nat, i ≠ 83 → C i = C0 i) → C 5 = .inr (7, [.ref (ad 6), .ref (ad 7), .ref (ad 8), .ref (ad 9), .ref (ad 10), .ref (ad 11), .ref (ad 12), .ref (ad 13), .ref (ad 14), .ref (ad 15), .ref (ad 16), .ref (ad 17), .ref (ad 18), .int t_there, .int t_lift, .int t_none]) → C 6 = aI g 12 t_down → C 8 = aI g 12 t_pac → C 19 = .inr (9, [.ref (ad 5), .ref (ad 20), .int w_src]) → C 20 = aI g 12 w_over → C 81 = .inr (3, [.ref (ad 5), .ref (ad 19), .ref (ad 82), .ref (ad 83)]) → C 83 = aI g 66 q1.2 → lv_has ls 7 [(0, .ref (ad 81)), (1, .int p0), (2, .int q1.1), (3, .int q11.1), (4, .int q11.2), (5, .int x5), (6, .int q10)] → W p l e (headSpec wsX3_fewestToHang rmX3_fewestToHang).room s m args below meth c H locs 0 0 QQ (F0 m 92 ls []) := by
            intro C H locs ls hP hS hag h5 h6 h8 h19 h20 h81 h83 hl
            obtain ⟨x12, ex12, hf⟩ := lt_e hf
            refine lv_iinc (v := x12) (lv' := [(5, .int x12), (0, .ref (ad 81)), (1, .int p0), (2, .int q1.1), (3, .int q11.1), (4, .int q11.2), (6, .int q10)]) hx hb dX3_fewestToHang_92 hl (k := 5) rfl (by rw [ex12]; rfl) (by decide) rfl (fun ls hl => ?_)
            refine lv_goto (tgt := 23) hx hb dX3_fewestToHang_95 (by decide) ?_
            exact ih q11.1 q11.2 x12 C H locs ls hP hS hag h5 h6 h8 h19 h20 h81 h83 (lv_sub hl [1, 2, 3, 4, 5, 0] rfl) hf
          clear hf
          have hf := htq11
          refine lv_if_eq (tgt := 92) hx hb dX3_fewestToHang_59 (by decide) (fun c13 => ?_) (fun c13 => ?_)
          · have hf := it_e c13 hf
            obtain rfl := Option.some.inj hf
            exact jnq11 C H locs ls hP hS hag h5 h6 h8 h19 h20 h81 h83 (lv_sub hl [1, 2, 3, 4, 5, 6, 0] rfl)
          · have hf := ie_e c13 hf
            refine lv_iload hx hb dX3_fewestToHang_62 (lv_at hl 6 rfl) ?_
            obtain ⟨q14, hq14, hf⟩ := bd_e hf
            refine k_iR (va_runS (As := [.int x5]) (rest := []) ⟨hx, hb, hml, hown, hts⟩ (c_J6_bitCount_0f7a4 (l := l) (sz := H.size) (p0 := x5) hq14) (va_cwS 1 hts gX3_fewestToHang_J6_bitCount_0f7a4 rfl rfl rfl (by decide +kernel) ⟨Nat.le_of_ble_eq_true rfl, Nat.le_of_ble_eq_true rfl⟩) preS0 rfl rfl hl.1 rfl (lv_room (Nat.le_of_ble_eq_true rfl)) dX3_fewestToHang_64 ⟨Nat.le_refl _, Nat.le_refl _⟩) hA hP hS (fun H locs hP hS hbz_q14 => ?_)
            refine lv_iload hx hb dX3_fewestToHang_67 (lv_at hl 5 rfl) ?_
            refine lv_icmp_ge (tgt := 92) hx hb dX3_fewestToHang_69 (by decide) (fun c15 => ?_) (fun c15 => ?_)
            · have hf := it_e c15 hf
              obtain rfl := Option.some.inj hf
              exact jnq11 C H locs ls hP hS hag h5 h6 h8 h19 h20 h81 h83 (lv_sub hl [1, 2, 3, 4, 5, 6, 0] rfl)
            · have hf := ie_e c15 hf
              refine lv_aload_n hx hb dX3_fewestToHang_72 rfl (lv_at hl 1 rfl) ?_
              refine lv_iload hx hb dX3_fewestToHang_73 (lv_at hl 6 rfl) ?_
              refine lv_iload_n hx hb dX3_fewestToHang_75 rfl (lv_at hl 3 rfl) ?_
              obtain ⟨q16, hq16, hf⟩ := bd_e hf
              refine k_iR (va_runV (C := RX3) (As := [.int x5, .int q1.1]) (rest := []) ⟨hx, hb, hml, hown, hts⟩ (c_X3_tellsApart (l := l) (sz := H.size) (p0 := x5) (p1 := q1.1) h81 h83 hq16) (cwV 2 hts gX3_fewestToHang_X3_tellsApart rfl rfl rfl (by decide +kernel) ⟨Nat.le_of_ble_eq_true rfl, Nat.le_of_ble_eq_true rfl⟩) (preV_of hK hP (by decide) h81 rfl) rfl rfl hl.1 rfl (lv_room (Nat.le_of_ble_eq_true rfl)) dX3_fewestToHang_76 ⟨Nat.le_refl _, Nat.le_refl _⟩) hA hP hS (fun H locs hP hS hbz_q16 => ?_)
              refine lv_if_eq (tgt := 92) hx hb dX3_fewestToHang_79 (by decide) (fun c17 => ?_) (fun c17 => ?_)
              · have hf := it_e c17 hf
                obtain rfl := Option.some.inj hf
                exact jnq11 C H locs ls hP hS hag h5 h6 h8 h19 h20 h81 h83 (lv_sub hl [1, 2, 3, 4, 5, 6, 0] rfl)
              · have hf := ie_e c17 hf
                refine lv_iload hx hb dX3_fewestToHang_82 (lv_at hl 6 rfl) ?_
                refine lv_istore_n (lv' := [(3, .int x5), (6, .int q10), (0, .ref (ad 81)), (1, .int p0), (2, .int q1.1), (4, .int x4), (5, .int x5)]) hx hb dX3_fewestToHang_84 rfl hl (by decide) rfl (fun ls hl => ?_)
                refine lv_iload hx hb dX3_fewestToHang_85 (lv_at hl 6 rfl) ?_
                obtain ⟨q18, hq18, hf⟩ := bd_e hf
                refine k_iR (va_runS (As := [.int x5]) (rest := []) ⟨hx, hb, hml, hown, hts⟩ (c_J6_bitCount_0f7a4 (l := l) (sz := H.size) (p0 := x5) hq18) (va_cwS 1 hts gX3_fewestToHang_J6_bitCount_0f7a4 rfl rfl rfl (by decide +kernel) ⟨Nat.le_of_ble_eq_true rfl, Nat.le_of_ble_eq_true rfl⟩) preS0 rfl rfl hl.1 rfl (lv_room (Nat.le_of_ble_eq_true rfl)) dX3_fewestToHang_87 ⟨Nat.le_refl _, Nat.le_refl _⟩) hA hP hS (fun H locs hP hS hbz_q18 => ?_)
                refine lv_istore (lv' := [(4, .int q18), (3, .int x5), (6, .int q10), (0, .ref (ad 81)), (1, .int p0), (2, .int q1.1), (5, .int x5)]) hx hb dX3_fewestToHang_90 hl (by decide) rfl (fun ls hl => ?_)
                obtain rfl := Option.some.inj hf
                exact jnq11 C H locs ls hP hS hag h5 h6 h8 h19 h20 h81 h83 (lv_sub hl [3, 4, 5, 1, 0, 6, 2] rfl)
        clear hf
        have hf := htq10
        refine lv_if_ne (tgt := 54) hx hb dX3_fewestToHang_47 (by decide) (fun c19 => ?_) (fun c19 => ?_)
        · have hf := ie_e c19 hf
          refine lv_iconst (v := 0) hx hb dX3_fewestToHang_54 (by decide) ?_
          obtain rfl := Option.some.inj hf
          exact jnq10 C H locs ls hP hS hag h5 h6 h8 h19 h20 h81 h83 (lv_sub hl [0, 1, 2, 3, 4, 5] rfl)
        · have hf := it_e c19 hf
          refine lv_iconst (v := 1) hx hb dX3_fewestToHang_50 (by decide) ?_
          refine lv_goto (tgt := 55) hx hb dX3_fewestToHang_51 (by decide) ?_
          obtain rfl := Option.some.inj hf
          exact jnq10 C H locs ls hP hS hag h5 h6 h8 h19 h20 h81 h83 (lv_sub hl [0, 1, 2, 3, 4, 5] rfl)
  refine key23 _ (fun x6 x7 x8 C H locs ls hP hS hag h5 h6 h8 h19 h20 h81 h83 hl hf => ?_) FU t_there q2 0 C H locs ls hP hS hag h5 h6 h8 h19 h20 h81 h83 (lv_sub hl [4, 5, 3, 2, 1, 0] rfl) hf
  refine lv_iload_n hx hb dX3_fewestToHang_98 rfl (lv_at hl 3 rfl) ?_
  obtain rfl := Option.some.inj hf
  rw [← hQ]
  exact e_iW hx hb hr rfl (tP_i _) hP hS ⟨hag, h83⟩ hlocks dX3_fewestToHang_99

def f_X0_draw (d_seed : Int32) : Option (Int32 × Int32) :=
  lt ((((d_seed * 25173) + 13849) &&& 65535) : Int32) fun x1 =>
  nz (64) <|
  some ((x1 / 64), x1)
abbrev rmX0_draw : Room := { frames := 0, cells := 0, slots := 0, locals := 0 }
set_option maxHeartbeats 4000000 in
set_option maxRecDepth 100000 in
theorem c_X0_draw {l : Launch} {D : va_G} {g : Nat → ClassId} {ad : Nat → Nat} {C : Nat → va_E} {sz : Nat} {d_seed : Int32} {d_min : Int32} {d_gue : Int32} {d_src : Int32} {d_lif : Int32}  {rr : Int32 × Int32} (hI : Inj 109 ad) (h84 : C 84 = .inr (0, [.ref (ad 5), .ref (ad 19), .ref (ad 77), .int d_seed, .int d_min, .int d_gue, .int d_src, .int d_lif])) (hf : f_X0_draw d_seed = some rr) : Met l yX0_draw wsX0_draw rmX0_draw (PcW D g 109 ad C sz [.ref (ad 84)]) (QiW D 109 ad sz tP rr.1 (fun C' => (∀ i : Nat, i ≠ 84 → C' i = C i) ∧ (C' 84 = .inr (0, [.ref (ad 5), .ref (ad 19), .ref (ad 77), .int rr.2, .int d_min, .int d_gue, .int d_src, .int d_lif])))) 0 0 (Aw 109 ad sz) := by
  refine Met.ofW (cc := cX0_draw) (maxL := 1) (ret := (some .int)) (by decide) rfl ?_
  intro p e s m args below meth c s₁ B hml hv
  obtain ⟨hav, hsz, hK, hP⟩ := hv
  subst hsz
  have hx := B.exec
  have hb := B.bytes
  have hr := B.returns
  have hts := atoms_spec (ws := wsX0_draw) B.pre
  have hown : s.vm.findClass RX0 = some m.cls := findClass_of_methodNamed B.named
  have hlocks := B.notSynchronized
  generalize hQ : MQ below (QiW D 109 ad s.heap.size tP rr.1 (fun C' => (∀ i : Nat, i ≠ 84 → C' i = C i) ∧ (C' 84 = .inr (0, [.ref (ad 5), .ref (ad 19), .ref (ad 77), .int rr.2, .int d_min, .int d_gue, .int d_src, .int d_lif])))) args s 0 0 (Aw 109 ad s.heap.size) = QQ
  have hS : va_S (Aw 109 ad s.heap.size) s.heap s.heap [] := va_S.rf
  have hA : ∀ q, s.heap.size ≤ q → (Aw 109 ad s.heap.size) q := fun q h => Or.inr h
  have hAd : ∀ j : Nat, j < 109 → (Aw 109 ad s.heap.size) (ad j) := fun j h => Or.inl ⟨j, h, rfl⟩
  obtain ⟨C0, hC0⟩ : ∃ C0 : Nat → va_E, C0 = C := ⟨_, rfl⟩
  have hag : ∀ i : Nat, i ≠ 84 → C i = C0 i := fun i _ => by rw [hC0]
  rw [← hC0] at hQ
  have k0 := hts (.fieldLink RX0 28 "UpDrain$DayWalk" "seed" "I") (List.mem_of_getElem? (i := 1) rfl)
  have nX0 : ∀ w ∈ u_ws RX0 TX0 8, w ∈ wsX0_draw := fun _ h => List.mem_cons_of_mem _ (List.mem_append_right _ h)
  have k2 := hts (.constant RX0 85 (65535)) (List.mem_of_getElem? (i := 2) rfl)
  have hE := lg_entry_eq m [.ref (ad 84)] 1
  rw [← hav] at hE
  rw [hE]
  have hl := lv_entry [.ref (ad 84)] (n := 1) (Nat.le_of_ble_eq_true rfl)
  generalize (lg_sl [.ref (ad 84)] ++ List.replicate (1 - (lg_sl [.ref (ad 84)]).length) Slot.unset).toArray = ls at hl ⊢
  have hl : lv_has ls 1 [(0, .ref (ad 84))] := hl
  clear hE
  unfold f_X0_draw at hf
  suffices hgo : ∀ (H : Heap) (locs : List Loc), va_P D vwCl (wd 109 ad C) H → va_S (Aw 109 ad s.heap.size) s.heap H locs → W p l e (headSpec wsX0_draw rmX0_draw).room s m args below meth c H locs 0 0 QQ (F0 m 0 ls []) from hgo s.heap [] hP hS
  clear hS hP
  intro H locs hP hS
  refine lv_aload_n hx hb dX0_draw_0 rfl (lv_at hl 0 rfl) ?_
  refine lv_aload_n hx hb dX0_draw_1 rfl (lv_at hl 0 rfl) ?_
  refine r_get (own := RX0) (T := TX0) (n := 8) (ci := 0) (v := .int d_seed) hx hb hts nX0 hown hK hP (by decide) h84 rfl 3 (by decide) k0 rfl dX0_draw_2 ?_
  refine lv_sipush (v := 25173) hx hb dX0_draw_5 (by decide) ?_
  refine lv_imul hx hb dX0_draw_8 ?_
  refine lv_sipush (v := 13849) hx hb dX0_draw_9 (by decide) ?_
  refine lv_iadd hx hb dX0_draw_12 ?_
  refine lv_ldc (own := RX0) hx hb hown k2 dX0_draw_13 ?_
  refine lv_iand hx hb dX0_draw_15 ?_
  obtain ⟨x1, ex1, hf⟩ := lt_e hf
  refine tp_i ex1 ?_
  refine r_put (own := RX0) (T := TX0) (n := 8) (ci := 0) (v := .int x1) hx hb hts nX0 tyX0 tyX0_ok nmX0 hown hK hI hAd hP hS (by decide) h84 rfl 3 (by decide) k0 rfl rfl rfl (Nat.le_of_ble_eq_true rfl) dX0_draw_16 (fun C H locs hP hS he hn => ?_)
  have hag : ∀ i : Nat, i ≠ 84 → C i = C0 i := fun i h => (he i (by omega)).trans (hag i h)
  have h84 : C 84 = .inr (0, [.ref (ad 5), .ref (ad 19), .ref (ad 77), .int x1, .int d_min, .int d_gue, .int d_src, .int d_lif]) := hn
  refine lv_aload_n hx hb dX0_draw_19 rfl (lv_at hl 0 rfl) ?_
  refine r_get (own := RX0) (T := TX0) (n := 8) (ci := 0) (v := .int x1) hx hb hts nX0 hown hK hP (by decide) h84 rfl 3 (by decide) k0 rfl dX0_draw_20 ?_
  refine lv_bipush (v := 64) hx hb dX0_draw_23 (by decide) ?_
  obtain ⟨z2, hf⟩ := nz_e hf
  refine lv_idiv hx hb dX0_draw_25 z2 ?_
  obtain rfl := Option.some.inj hf
  rw [← hQ]
  exact e_iW hx hb hr rfl (tP_i _) hP hS ⟨hag, h84⟩ hlocks dX0_draw_26

def LX0_drawSource_26 (t_lik : Nat → Int32) (w_src : Int32) (q1 : Int32 × Int32) (ko : Int32 → Int32 → Option (Int32 × Int32)) : Nat → Int32 → Int32 → Option (Int32 × Int32)
  | 0, _, _ => none
  | n + 1, x6, x7 =>
    if 12 ≤ x7 then
      ko x6 x7
    else
      (f_X10_has w_src x7).bind fun q11 =>
      if q11 = 0 then
        lt (x7 + 1 : Int32) fun x13 =>
        LX0_drawSource_26 t_lik w_src q1 ko n x6 x13
      else
        ri t_lik 12 (x7) fun x14 =>
        lt ((x6 - x14) : Int32) fun x16 =>
        if 0 ≤ x16 then
          lt (x7 + 1 : Int32) fun x18 =>
          LX0_drawSource_26 t_lik w_src q1 ko n x16 x18
        else
          some (x7, q1.2)
theorem LX0_drawSource_26_z (t_lik : Nat → Int32) (w_src : Int32) (q1 : Int32 × Int32) (ko : Int32 → Int32 → Option (Int32 × Int32)) (x6 : Int32) (x7 : Int32) : LX0_drawSource_26 t_lik w_src q1 ko 0 x6 x7 = none := rfl
theorem LX0_drawSource_26_s (t_lik : Nat → Int32) (w_src : Int32) (q1 : Int32 × Int32) (ko : Int32 → Int32 → Option (Int32 × Int32)) (n : Nat) (x6 : Int32) (x7 : Int32) : LX0_drawSource_26 t_lik w_src q1 ko (n + 1) x6 x7 =
    if 12 ≤ x7 then
      ko x6 x7
    else
      (f_X10_has w_src x7).bind fun q11 =>
      if q11 = 0 then
        lt (x7 + 1 : Int32) fun x13 =>
        LX0_drawSource_26 t_lik w_src q1 ko n x6 x13
      else
        ri t_lik 12 (x7) fun x14 =>
        lt ((x6 - x14) : Int32) fun x16 =>
        if 0 ≤ x16 then
          lt (x7 + 1 : Int32) fun x18 =>
          LX0_drawSource_26 t_lik w_src q1 ko n x16 x18
        else
          some (x7, q1.2) := rfl
def f_X0_drawSource (t_lik : Nat → Int32) (w_src : Int32) (d_seed : Int32) : Option (Int32 × Int32) :=
  (f_X0_draw d_seed).bind fun q1 =>
  (f_X9_likelyOf w_src t_lik).bind fun q2 =>
  lt ((if 1 < q2 then q2 else 1) : Int32) fun x3 =>
  nz (x3) <|
  lt ((q1.1 - q1.1 / x3 * x3) : Int32) fun x5 =>
  LX0_drawSource_26 t_lik w_src q1 (fun x8 x9 =>
    some ((-1), q1.2)) FU x5 0
abbrev rmX0_drawSource : Room := { frames := 2, cells := 0, slots := 0, locals := 44 }
set_option maxHeartbeats 4000000 in
set_option maxRecDepth 100000 in
theorem c_X0_drawSource {l : Launch} {D : va_G} {g : Nat → ClassId} {ad : Nat → Nat} {C : Nat → va_E} {sz : Nat} {t_there : Int32} {t_lift : Int32} {t_none : Int32} {t_lik : Nat → Int32} {w_src : Int32} {d_seed : Int32} {d_min : Int32} {d_gue : Int32} {d_src : Int32} {d_lif : Int32}  {rr : Int32 × Int32} (hI : Inj 109 ad) (h5 : C 5 = .inr (7, [.ref (ad 6), .ref (ad 7), .ref (ad 8), .ref (ad 9), .ref (ad 10), .ref (ad 11), .ref (ad 12), .ref (ad 13), .ref (ad 14), .ref (ad 15), .ref (ad 16), .ref (ad 17), .ref (ad 18), .int t_there, .int t_lift, .int t_none])) (h11 : C 11 = aI g 12 t_lik) (h19 : C 19 = .inr (9, [.ref (ad 5), .ref (ad 20), .int w_src])) (h84 : C 84 = .inr (0, [.ref (ad 5), .ref (ad 19), .ref (ad 77), .int d_seed, .int d_min, .int d_gue, .int d_src, .int d_lif])) (hf : f_X0_drawSource t_lik w_src d_seed = some rr) : Met l yX0_drawSource wsX0_drawSource rmX0_drawSource (PcW D g 109 ad C sz [.ref (ad 84)]) (QiW D 109 ad sz tP rr.1 (fun C' => (∀ i : Nat, i ≠ 84 → C' i = C i) ∧ (C' 84 = .inr (0, [.ref (ad 5), .ref (ad 19), .ref (ad 77), .int rr.2, .int d_min, .int d_gue, .int d_src, .int d_lif])))) 0 0 (Aw 109 ad sz) := by
  refine Met.ofW (cc := cX0_drawSource) (maxL := 3) (ret := (some .int)) (by decide) rfl ?_
  intro p e s m args below meth c s₁ B hml hv
  obtain ⟨hav, hsz, hK, hP⟩ := hv
  subst hsz
  have hx := B.exec
  have hb := B.bytes
  have hr := B.returns
  have hts := atoms_spec (ws := wsX0_drawSource) B.pre
  have hown : s.vm.findClass RX0 = some m.cls := findClass_of_methodNamed B.named
  have hlocks := B.notSynchronized
  generalize hQ : MQ below (QiW D 109 ad s.heap.size tP rr.1 (fun C' => (∀ i : Nat, i ≠ 84 → C' i = C i) ∧ (C' 84 = .inr (0, [.ref (ad 5), .ref (ad 19), .ref (ad 77), .int rr.2, .int d_min, .int d_gue, .int d_src, .int d_lif])))) args s 0 0 (Aw 109 ad s.heap.size) = QQ
  have hS : va_S (Aw 109 ad s.heap.size) s.heap s.heap [] := va_S.rf
  have hA : ∀ q, s.heap.size ≤ q → (Aw 109 ad s.heap.size) q := fun q h => Or.inr h
  have hAd : ∀ j : Nat, j < 109 → (Aw 109 ad s.heap.size) (ad j) := fun j h => Or.inl ⟨j, h, rfl⟩
  obtain ⟨C0, hC0⟩ : ∃ C0 : Nat → va_E, C0 = C := ⟨_, rfl⟩
  have hag : ∀ i : Nat, i ≠ 84 → C i = C0 i := fun i _ => by rw [hC0]
  rw [← hC0] at hQ
  have k0 := hts (.fieldLink RX0 15 "UpDrain$DayWalk" "ways" "LUpDrain$Ways;") (List.mem_of_getElem? (i := 1) rfl)
  have nX0 : ∀ w ∈ u_ws RX0 TX0 8, w ∈ wsX0_drawSource := fun _ h => List.mem_cons_of_mem _ (List.mem_append_left _ (List.mem_append_left _ (List.mem_append_right _ h)))
  have k2 := nf_51 (A := args) hK
  have nX9 : ∀ w ∈ u_ws RX9 TX9 3, w ∈ wsX0_drawSource := fun _ h => List.mem_cons_of_mem _ (List.mem_append_left _ (List.mem_append_right _ h))
  have k4 := hts (.methodLink RX0 92 Lib.Math.max.name) (List.mem_of_getElem? (i := 2) rfl)
  have k5 := hts (.static Lib.Math.max.name) (List.mem_of_getElem? (i := 3) rfl)
  have k6 := hts (.initialized "java/lang/Math") (List.mem_of_getElem? (i := 4) rfl)
  have k7 := hts (.code Lib.Math.max.name Lib.Math.max.code 2 (some .int)) (List.mem_of_getElem? (i := 5) rfl)
  have k8 := nm_10 hK
  have k9 := hts (.initialized RX10) (List.mem_of_getElem? (i := 21) rfl)
  have k10 := hts (.static yX10_has) (List.mem_of_getElem? (i := 20) rfl)
  have k11 := hts (.fieldLink RX0 9 "UpDrain$DayWalk" "plan" "LUpDrain$Town;") (List.mem_of_getElem? (i := 6) rfl)
  have k12 := nf_18 (A := args) hK
  have nX7 : ∀ w ∈ u_ws RX7 TX7 16, w ∈ wsX0_drawSource := fun _ h => List.mem_cons_of_mem _ (List.mem_append_right _ h)
  have hE := lg_entry_eq m [.ref (ad 84)] 3
  rw [← hav] at hE
  rw [hE]
  have hl := lv_entry [.ref (ad 84)] (n := 3) (Nat.le_of_ble_eq_true rfl)
  generalize (lg_sl [.ref (ad 84)] ++ List.replicate (3 - (lg_sl [.ref (ad 84)]).length) Slot.unset).toArray = ls at hl ⊢
  have hl : lv_has ls 3 [(0, .ref (ad 84))] := hl
  clear hE
  unfold f_X0_drawSource at hf
  suffices hgo : ∀ (H : Heap) (locs : List Loc), va_P D vwCl (wd 109 ad C) H → va_S (Aw 109 ad s.heap.size) s.heap H locs → W p l e (headSpec wsX0_drawSource rmX0_drawSource).room s m args below meth c H locs 0 0 QQ (F0 m 0 ls []) from hgo s.heap [] hP hS
  clear hS hP
  intro H locs hP hS
  refine lv_aload_n hx hb dX0_drawSource_0 rfl (lv_at hl 0 rfl) ?_
  obtain ⟨q1, hq1, hf⟩ := bd_e hf
  refine k_iW (va_runV (C := RX0) (As := []) (rest := []) ⟨hx, hb, hml, hown, hts⟩ (c_X0_draw (l := l) (sz := H.size)  hI h84 hq1) (cwV 0 hts gX0_drawSource_X0_draw rfl rfl rfl (by decide +kernel) ⟨Nat.le_of_ble_eq_true rfl, Nat.le_of_ble_eq_true rfl⟩) (preV_of hK hP (by decide) h84 rfl) rfl rfl hl.1 rfl (lv_room (Nat.le_of_ble_eq_true rfl)) dX0_drawSource_1 ⟨Nat.le_refl _, Nat.le_refl _⟩) hA hAd hS (fun C H locs hP hS hpo hbz_q1 => ?_)
  obtain ⟨he, h84⟩ := hpo
  have hag : ∀ i : Nat, i ≠ 84 → C i = C0 i := fun i h => (he i (by omega)).trans (hag i h)
  have h5 := (he 5 (by decide)).trans h5
  have h11 := (he 11 (by decide)).trans h11
  have h19 := (he 19 (by decide)).trans h19
  refine lv_iconst (v := 1) hx hb dX0_drawSource_4 (by decide) ?_
  refine lv_aload_n hx hb dX0_drawSource_5 rfl (lv_at hl 0 rfl) ?_
  refine r_get (own := RX0) (T := TX0) (n := 8) (ci := 0) (v := .ref (ad 19)) hx hb hts nX0 hown hK hP (by decide) h84 rfl 1 (by decide) k0 rfl dX0_drawSource_6 ?_
  refine lv_aload_n hx hb dX0_drawSource_9 rfl (lv_at hl 0 rfl) ?_
  refine r_get (own := RX0) (T := TX0) (n := 8) (ci := 0) (v := .ref (ad 19)) hx hb hts nX0 hown hK hP (by decide) h84 rfl 1 (by decide) k0 rfl dX0_drawSource_10 ?_
  refine r_getN (own := RX0) (T := TX9) (n := 3) (ci := 9) (v := .int w_src) hx hb hts nX9 hown hK hP (by decide) h19 rfl 2 (by decide) k2 rfl dX0_drawSource_13 ?_
  obtain ⟨q2, hq2, hf⟩ := bd_e hf
  refine k_iR (va_runV (C := RX9) (As := [.int w_src]) (rest := [.int 1, .int q1.1]) ⟨hx, hb, hml, hown, hts⟩ (c_X9_likelyOf (l := l) (sz := H.size) (p0 := w_src) h5 h11 h19 hq2) (cwV 1 hts gX0_drawSource_X9_likelyOf rfl rfl rfl (by decide +kernel) ⟨Nat.le_of_ble_eq_true rfl, Nat.le_of_ble_eq_true rfl⟩) (preV_of hK hP (by decide) h19 rfl) rfl rfl hl.1 rfl (lv_room (Nat.le_of_ble_eq_true rfl)) dX0_drawSource_16 ⟨Nat.le_refl _, Nat.le_refl _⟩) hA hP hS (fun H locs hP hS hbz_q2 => ?_)
  refine va_mmax (own := RX0) hx hb (hml.trans hl.1.symm) hown k4 k5 k6 k7 (Nat.le_of_ble_eq_true rfl) (Nat.le_of_ble_eq_true rfl) (Nat.le_refl _) (Nat.le_refl _) dX0_drawSource_19 ?_
  obtain ⟨x3, ex3, hf⟩ := lt_e hf
  refine tp_i ex3 ?_
  obtain ⟨z4, hf⟩ := nz_e hf
  refine lv_irem hx hb dX0_drawSource_22 z4 ?_
  obtain ⟨x5, ex5, hf⟩ := lt_e hf
  refine tp_i ex5 ?_
  refine lv_istore_n (lv' := [(1, .int x5), (0, .ref (ad 84))]) hx hb dX0_drawSource_23 rfl hl (by decide) rfl (fun ls hl => ?_)
  refine lv_iconst (v := 0) hx hb dX0_drawSource_24 (by decide) ?_
  refine lv_istore_n (lv' := [(2, .int 0), (1, .int x5), (0, .ref (ad 84))]) hx hb dX0_drawSource_25 rfl hl (by decide) rfl (fun ls hl => ?_)
  have key26 : ∀ (ko : Int32 → Int32 → Option (Int32 × Int32)), (∀ (x8 : Int32) (x9 : Int32) (C : Nat → va_E) (H : Heap) (locs : List Loc) (ls : Array Slot), va_P D vwCl (wd 109 ad C) H → va_S (Aw 109 ad s.heap.size) s.heap H locs → (∀ i : Nat, i ≠ 84 → C i = C0 i) → C 5 = .inr (7, [.ref (ad 6), .ref (ad 7), .ref (ad 8), .ref (ad 9), .ref (ad 10), .ref (ad 11), .ref (ad 12), .ref (ad 13), .ref (ad 14), .ref (ad 15), .ref (ad 16), .ref (ad 17), .ref (ad 18), .int t_there, .int t_lift, .int t_none]) → C 11 = aI g 12 t_lik → C 19 = .inr (9, [.ref (ad 5), .ref (ad 20), .int w_src]) → C 84 = .inr (0, [.ref (ad 5), .ref (ad 19), .ref (ad 77), .int q1.2, .int d_min, .int d_gue, .int d_src, .int d_lif]) → lv_has ls 3 [(0, .ref (ad 84)), (1, .int x8), (2, .int x9)] → ko x8 x9 = some rr → W p l e (headSpec wsX0_drawSource rmX0_drawSource).room s m args below meth c H locs 0 0 QQ (F0 m 70 ls [])) → ∀ (n : Nat) (x6 : Int32) (x7 : Int32) (C : Nat → va_E) (H : Heap) (locs : List Loc) (ls : Array Slot), va_P D vwCl (wd 109 ad C) H → va_S (Aw 109 ad s.heap.size) s.heap H locs → (∀ i : Nat, i ≠ 84 → C i = C0 i) → C 5 = .inr (7, [.ref (ad 6), .ref (ad 7), .ref (ad 8), .ref (ad 9), .ref (ad 10), .ref (ad 11), .ref (ad 12), .ref (ad 13), .ref (ad 14), .ref (ad 15), .ref (ad 16), .ref (ad 17), .ref (ad 18), .int t_there, .int t_lift, .int t_none]) → C 11 = aI g 12 t_lik → C 19 = .inr (9, [.ref (ad 5), .ref (ad 20), .int w_src]) → C 84 = .inr (0, [.ref (ad 5), .ref (ad 19), .ref (ad 77), .int q1.2, .int d_min, .int d_gue, .int d_src, .int d_lif]) → lv_has ls 3 [(0, .ref (ad 84)), (1, .int x6), (2, .int x7)] → LX0_drawSource_26 t_lik w_src q1 ko n x6 x7 = some rr → W p l e (headSpec wsX0_drawSource rmX0_drawSource).room s m args below meth c H locs 0 0 QQ (F0 m 26 ls []) := by
    intro ko hko n
    induction n with
    | zero =>
      intro x6 x7 C H locs ls hP hS hag h5 h11 h19 h84 hl hf
      rw [LX0_drawSource_26_z] at hf
      cases hf
    | succ n ih =>
      intro x6 x7 C H locs ls hP hS hag h5 h11 h19 h84 hl hf
      rw [LX0_drawSource_26_s] at hf
      refine lv_iload_n hx hb dX0_drawSource_26 rfl (lv_at hl 2 rfl) ?_
      refine lv_bipush (v := 12) hx hb dX0_drawSource_27 (by decide) ?_
      refine lv_icmp_ge (tgt := 70) hx hb dX0_drawSource_29 (by decide) (fun c10 => ?_) (fun c10 => ?_)
      · have hf := it_e c10 hf
        exact hko x6 x7 C H locs ls hP hS hag h5 h11 h19 h84 (lv_sub hl [0, 1, 2] rfl) hf
      · have hf := ie_e c10 hf
        refine lv_aload_n hx hb dX0_drawSource_32 rfl (lv_at hl 0 rfl) ?_
        refine r_get (own := RX0) (T := TX0) (n := 8) (ci := 0) (v := .ref (ad 19)) hx hb hts nX0 hown hK hP (by decide) h84 rfl 1 (by decide) k0 rfl dX0_drawSource_33 ?_
        refine r_getN (own := RX0) (T := TX9) (n := 3) (ci := 9) (v := .int w_src) hx hb hts nX9 hown hK hP (by decide) h19 rfl 2 (by decide) k2 rfl dX0_drawSource_36 ?_
        refine lv_iload_n hx hb dX0_drawSource_39 rfl (lv_at hl 2 rfl) ?_
        obtain ⟨q11, hq11, hf⟩ := bd_e hf
        refine k_iR (va_runSN (As := [.int w_src, .int x7]) (rest := []) ⟨hx, hb, hml, hown, hts⟩ (c_X10_has (l := l) (sz := H.size) (p0 := w_src) (p1 := x7) hq11) ⟨va_cnB 2 hts gX0_drawSource_X10_has_n82 rfl rfl rfl k8 k9 (by decide +kernel) ⟨Nat.le_of_ble_eq_true rfl, Nat.le_of_ble_eq_true rfl⟩, k10, trivial⟩ preS0 rfl rfl hl.1 rfl (lv_room (Nat.le_of_ble_eq_true rfl)) dX0_drawSource_40 ⟨Nat.le_refl _, Nat.le_refl _⟩) hA hP hS (fun H locs hP hS hbz_q11 => ?_)
        refine lv_if_eq (tgt := 64) hx hb dX0_drawSource_43 (by decide) (fun c12 => ?_) (fun c12 => ?_)
        · have hf := it_e c12 hf
          obtain ⟨x13, ex13, hf⟩ := lt_e hf
          refine lv_iinc (v := x13) (lv' := [(2, .int x13), (0, .ref (ad 84)), (1, .int x6)]) hx hb dX0_drawSource_64 hl (k := 2) rfl (by rw [ex13]; rfl) (by decide) rfl (fun ls hl => ?_)
          refine lv_goto (tgt := 26) hx hb dX0_drawSource_67 (by decide) ?_
          exact ih x6 x13 C H locs ls hP hS hag h5 h11 h19 h84 (lv_sub hl [1, 2, 0] rfl) hf
        · have hf := ie_e c12 hf
          refine lv_iload_n hx hb dX0_drawSource_46 rfl (lv_at hl 1 rfl) ?_
          refine lv_aload_n hx hb dX0_drawSource_47 rfl (lv_at hl 0 rfl) ?_
          refine r_get (own := RX0) (T := TX0) (n := 8) (ci := 0) (v := .ref (ad 5)) hx hb hts nX0 hown hK hP (by decide) h84 rfl 0 (by decide) k11 rfl dX0_drawSource_48 ?_
          refine r_getN (own := RX0) (T := TX7) (n := 16) (ci := 7) (v := .ref (ad 11)) hx hb hts nX7 hown hK hP (by decide) h5 rfl 5 (by decide) k12 rfl dX0_drawSource_51 ?_
          refine lv_iload_n hx hb dX0_drawSource_54 rfl (lv_at hl 2 rfl) ?_
          obtain ⟨i15, x14, ex14, hf⟩ := ri_e hf
          refine r_iald hx hb hK hP (by decide) h11 i15 dX0_drawSource_55 ex14 ?_
          refine lv_isub hx hb dX0_drawSource_56 ?_
          obtain ⟨x16, ex16, hf⟩ := lt_e hf
          refine tp_i ex16 ?_
          refine lv_istore_n (lv' := [(1, .int x16), (0, .ref (ad 84)), (2, .int x7)]) hx hb dX0_drawSource_57 rfl hl (by decide) rfl (fun ls hl => ?_)
          refine lv_iload_n hx hb dX0_drawSource_58 rfl (lv_at hl 0 rfl) ?_
          refine lv_if_ge (tgt := 64) hx hb dX0_drawSource_59 (by decide) (fun c17 => ?_) (fun c17 => ?_)
          · have hf := it_e c17 hf
            obtain ⟨x18, ex18, hf⟩ := lt_e hf
            refine lv_iinc (v := x18) (lv' := [(2, .int x18), (1, .int x16), (0, .ref (ad 84))]) hx hb dX0_drawSource_64 hl (k := 2) rfl (by rw [ex18]; rfl) (by decide) rfl (fun ls hl => ?_)
            refine lv_goto (tgt := 26) hx hb dX0_drawSource_67 (by decide) ?_
            exact ih x16 x18 C H locs ls hP hS hag h5 h11 h19 h84 (lv_sub hl [2, 1, 0] rfl) hf
          · have hf := ie_e c17 hf
            refine lv_iload_n hx hb dX0_drawSource_62 rfl (lv_at hl 2 rfl) ?_
            obtain rfl := Option.some.inj hf
            rw [← hQ]
            exact e_iW hx hb hr rfl (tP_i _) hP hS ⟨hag, h84⟩ hlocks dX0_drawSource_63
  refine key26 _ (fun x8 x9 C H locs ls hP hS hag h5 h11 h19 h84 hl hf => ?_) FU x5 0 C H locs ls hP hS hag h5 h11 h19 h84 (lv_sub hl [2, 1, 0] rfl) hf
  refine lv_iconst (v := (-1)) hx hb dX0_drawSource_70 (by decide) ?_
  obtain rfl := Option.some.inj hf
  rw [← hQ]
  exact e_iW hx hb hr rfl (tP_i _) hP hS ⟨hag, h84⟩ hlocks dX0_drawSource_71

def f_X0_drawAnswer (p0 : Int32) (p1 : Int32) (t_wy : Nat → Int32) (t_wn : Nat → Int32) (w_over : Nat → Int32) (d_seed : Int32) (d_src : Int32) : Option (Int32 × Int32) :=
  ri w_over 12 (p0) fun x1 =>
  (f_X10_has x1 d_src).bind fun q3 =>
  (if q3 = 0 then
    ri t_wy 4 (p1) fun x10 =>
    some (x10)
  else
    ri t_wn 4 (p1) fun x12 =>
    some (x12) : Option (Int32)).bind fun q4 =>
  (f_X0_draw d_seed).bind fun q5 =>
  nz (10) <|
  if q4 ≤ (q5.1 - q5.1 / 10 * 10) then
    some (q3, q5.2)
  else
    if q3 = 0 then
      some (1, q5.2)
    else
      some (0, q5.2)
abbrev rmX0_drawAnswer : Room := { frames := 1, cells := 0, slots := 0, locals := 21 }
set_option maxHeartbeats 4000000 in
set_option maxRecDepth 100000 in
theorem c_X0_drawAnswer {l : Launch} {D : va_G} {g : Nat → ClassId} {ad : Nat → Nat} {C : Nat → va_E} {sz : Nat} {t_there : Int32} {t_lift : Int32} {t_none : Int32} {t_wy : Nat → Int32} {t_wn : Nat → Int32} {w_src : Int32} {w_over : Nat → Int32} {d_seed : Int32} {d_min : Int32} {d_gue : Int32} {d_src : Int32} {d_lif : Int32} {p0 : Int32} {p1 : Int32} {rr : Int32 × Int32} (hI : Inj 109 ad) (h5 : C 5 = .inr (7, [.ref (ad 6), .ref (ad 7), .ref (ad 8), .ref (ad 9), .ref (ad 10), .ref (ad 11), .ref (ad 12), .ref (ad 13), .ref (ad 14), .ref (ad 15), .ref (ad 16), .ref (ad 17), .ref (ad 18), .int t_there, .int t_lift, .int t_none])) (h17 : C 17 = aI g 4 t_wy) (h18 : C 18 = aI g 4 t_wn) (h19 : C 19 = .inr (9, [.ref (ad 5), .ref (ad 20), .int w_src])) (h20 : C 20 = aI g 12 w_over) (h84 : C 84 = .inr (0, [.ref (ad 5), .ref (ad 19), .ref (ad 77), .int d_seed, .int d_min, .int d_gue, .int d_src, .int d_lif])) (hf : f_X0_drawAnswer p0 p1 t_wy t_wn w_over d_seed d_src = some rr) : Met l yX0_drawAnswer wsX0_drawAnswer rmX0_drawAnswer (PcW D g 109 ad C sz [.ref (ad 84), .int p0, .int p1]) (QiW D 109 ad sz bz rr.1 (fun C' => (∀ i : Nat, i ≠ 84 → C' i = C i) ∧ (C' 84 = .inr (0, [.ref (ad 5), .ref (ad 19), .ref (ad 77), .int rr.2, .int d_min, .int d_gue, .int d_src, .int d_lif])))) 0 0 (Aw 109 ad sz) := by
  refine Met.ofW (cc := cX0_drawAnswer) (maxL := 5) (ret := (some .boolean)) (by decide) rfl ?_
  intro p e s m args below meth c s₁ B hml hv
  obtain ⟨hav, hsz, hK, hP⟩ := hv
  subst hsz
  have hx := B.exec
  have hb := B.bytes
  have hr := B.returns
  have hts := atoms_spec (ws := wsX0_drawAnswer) B.pre
  have hown : s.vm.findClass RX0 = some m.cls := findClass_of_methodNamed B.named
  have hlocks := B.notSynchronized
  generalize hQ : MQ below (QiW D 109 ad s.heap.size bz rr.1 (fun C' => (∀ i : Nat, i ≠ 84 → C' i = C i) ∧ (C' 84 = .inr (0, [.ref (ad 5), .ref (ad 19), .ref (ad 77), .int rr.2, .int d_min, .int d_gue, .int d_src, .int d_lif])))) args s 0 0 (Aw 109 ad s.heap.size) = QQ
  have hS : va_S (Aw 109 ad s.heap.size) s.heap s.heap [] := va_S.rf
  have hA : ∀ q, s.heap.size ≤ q → (Aw 109 ad s.heap.size) q := fun q h => Or.inr h
  have hAd : ∀ j : Nat, j < 109 → (Aw 109 ad s.heap.size) (ad j) := fun j h => Or.inl ⟨j, h, rfl⟩
  obtain ⟨C0, hC0⟩ : ∃ C0 : Nat → va_E, C0 = C := ⟨_, rfl⟩
  have hag : ∀ i : Nat, i ≠ 84 → C i = C0 i := fun i _ => by rw [hC0]
  rw [← hC0] at hQ
  have k0 := hts (.fieldLink RX0 15 "UpDrain$DayWalk" "ways" "LUpDrain$Ways;") (List.mem_of_getElem? (i := 1) rfl)
  have nX0 : ∀ w ∈ u_ws RX0 TX0 8, w ∈ wsX0_drawAnswer := fun _ h => List.mem_cons_of_mem _ (List.mem_append_left _ (List.mem_append_left _ (List.mem_append_right _ h)))
  have k2 := nf_47 (A := args) hK
  have nX9 : ∀ w ∈ u_ws RX9 TX9 3, w ∈ wsX0_drawAnswer := fun _ h => List.mem_cons_of_mem _ (List.mem_append_left _ (List.mem_append_right _ h))
  have k4 := hts (.fieldLink RX0 42 "UpDrain$DayWalk" "source" "I") (List.mem_of_getElem? (i := 2) rfl)
  have k5 := nm_10 hK
  have k6 := hts (.initialized RX10) (List.mem_of_getElem? (i := 5) rfl)
  have k7 := hts (.static yX10_has) (List.mem_of_getElem? (i := 4) rfl)
  have k8 := hts (.fieldLink RX0 9 "UpDrain$DayWalk" "plan" "LUpDrain$Town;") (List.mem_of_getElem? (i := 3) rfl)
  have k9 := nf_30 (A := args) hK
  have nX7 : ∀ w ∈ u_ws RX7 TX7 16, w ∈ wsX0_drawAnswer := fun _ h => List.mem_cons_of_mem _ (List.mem_append_right _ h)
  have k11 := nf_33 (A := args) hK
  have hE := lg_entry_eq m [.ref (ad 84), .int p0, .int p1] 5
  rw [← hav] at hE
  rw [hE]
  have hl := lv_entry [.ref (ad 84), .int p0, .int p1] (n := 5) (Nat.le_of_ble_eq_true rfl)
  generalize (lg_sl [.ref (ad 84), .int p0, .int p1] ++ List.replicate (5 - (lg_sl [.ref (ad 84), .int p0, .int p1]).length) Slot.unset).toArray = ls at hl ⊢
  have hl : lv_has ls 5 [(0, .ref (ad 84)), (1, .int p0), (2, .int p1)] := hl
  clear hE
  unfold f_X0_drawAnswer at hf
  suffices hgo : ∀ (H : Heap) (locs : List Loc), va_P D vwCl (wd 109 ad C) H → va_S (Aw 109 ad s.heap.size) s.heap H locs → W p l e (headSpec wsX0_drawAnswer rmX0_drawAnswer).room s m args below meth c H locs 0 0 QQ (F0 m 0 ls []) from hgo s.heap [] hP hS
  clear hS hP
  intro H locs hP hS
  refine lv_aload_n hx hb dX0_drawAnswer_0 rfl (lv_at hl 0 rfl) ?_
  refine r_get (own := RX0) (T := TX0) (n := 8) (ci := 0) (v := .ref (ad 19)) hx hb hts nX0 hown hK hP (by decide) h84 rfl 1 (by decide) k0 rfl dX0_drawAnswer_1 ?_
  refine r_getN (own := RX0) (T := TX9) (n := 3) (ci := 9) (v := .ref (ad 20)) hx hb hts nX9 hown hK hP (by decide) h19 rfl 1 (by decide) k2 rfl dX0_drawAnswer_4 ?_
  refine lv_iload_n hx hb dX0_drawAnswer_7 rfl (lv_at hl 1 rfl) ?_
  obtain ⟨i2, x1, ex1, hf⟩ := ri_e hf
  refine r_iald hx hb hK hP (by decide) h20 i2 dX0_drawAnswer_8 ex1 ?_
  refine lv_aload_n hx hb dX0_drawAnswer_9 rfl (lv_at hl 0 rfl) ?_
  refine r_get (own := RX0) (T := TX0) (n := 8) (ci := 0) (v := .int d_src) hx hb hts nX0 hown hK hP (by decide) h84 rfl 6 (by decide) k4 rfl dX0_drawAnswer_10 ?_
  obtain ⟨q3, hq3, hf⟩ := bd_e hf
  refine k_iR (va_runSN (As := [.int x1, .int d_src]) (rest := []) ⟨hx, hb, hml, hown, hts⟩ (c_X10_has (l := l) (sz := H.size) (p0 := x1) (p1 := d_src) hq3) ⟨va_cnB 2 hts gX0_drawAnswer_X10_has_n82 rfl rfl rfl k5 k6 (by decide +kernel) ⟨Nat.le_of_ble_eq_true rfl, Nat.le_of_ble_eq_true rfl⟩, k7, trivial⟩ preS0 rfl rfl hl.1 rfl (lv_room (Nat.le_of_ble_eq_true rfl)) dX0_drawAnswer_13 ⟨Nat.le_refl _, Nat.le_refl _⟩) hA hP hS (fun H locs hP hS hbz_q3 => ?_)
  refine lv_istore_n (lv' := [(3, .int q3), (0, .ref (ad 84)), (1, .int p0), (2, .int p1)]) hx hb dX0_drawAnswer_16 rfl hl (by decide) rfl (fun ls hl => ?_)
  refine lv_iload_n hx hb dX0_drawAnswer_17 rfl (lv_at hl 0 rfl) ?_
  obtain ⟨q4, htq4, hf⟩ := bd_e hf
  have jnq4 : ∀ (C : Nat → va_E) (H : Heap) (locs : List Loc) (ls : Array Slot), va_P D vwCl (wd 109 ad C) H → va_S (Aw 109 ad s.heap.size) s.heap H locs → (∀ i : Nat, i ≠ 84 → C i = C0 i) → C 5 = .inr (7, [.ref (ad 6), .ref (ad 7), .ref (ad 8), .ref (ad 9), .ref (ad 10), .ref (ad 11), .ref (ad 12), .ref (ad 13), .ref (ad 14), .ref (ad 15), .ref (ad 16), .ref (ad 17), .ref (ad 18), .int t_there, .int t_lift, .int t_none]) → C 17 = aI g 4 t_wy → C 18 = aI g 4 t_wn → C 19 = .inr (9, [.ref (ad 5), .ref (ad 20), .int w_src]) → C 20 = aI g 12 w_over → C 84 = .inr (0, [.ref (ad 5), .ref (ad 19), .ref (ad 77), .int d_seed, .int d_min, .int d_gue, .int d_src, .int d_lif]) → lv_has ls 5 [(0, .ref (ad 84)), (1, .int p0), (2, .int p1), (3, .int q3)] → W p l e (headSpec wsX0_drawAnswer rmX0_drawAnswer).room s m args below meth c H locs 0 0 QQ (F0 m 42 ls [.int q4]) := by
    intro C H locs ls hP hS hag h5 h17 h18 h19 h20 h84 hl
    refine lv_istore (lv' := [(4, .int q4), (0, .ref (ad 84)), (1, .int p0), (2, .int p1), (3, .int q3)]) hx hb dX0_drawAnswer_42 hl (by decide) rfl (fun ls hl => ?_)
    refine lv_aload_n hx hb dX0_drawAnswer_44 rfl (lv_at hl 1 rfl) ?_
    obtain ⟨q5, hq5, hf⟩ := bd_e hf
    refine k_iW (va_runV (C := RX0) (As := []) (rest := []) ⟨hx, hb, hml, hown, hts⟩ (c_X0_draw (l := l) (sz := H.size)  hI h84 hq5) (cwV 0 hts gX0_drawAnswer_X0_draw rfl rfl rfl (by decide +kernel) ⟨Nat.le_of_ble_eq_true rfl, Nat.le_of_ble_eq_true rfl⟩) (preV_of hK hP (by decide) h84 rfl) rfl rfl hl.1 rfl (lv_room (Nat.le_of_ble_eq_true rfl)) dX0_drawAnswer_45 ⟨Nat.le_refl _, Nat.le_refl _⟩) hA hAd hS (fun C H locs hP hS hpo hbz_q5 => ?_)
    obtain ⟨he, h84⟩ := hpo
    have hag : ∀ i : Nat, i ≠ 84 → C i = C0 i := fun i h => (he i (by omega)).trans (hag i h)
    have h5 := (he 5 (by decide)).trans h5
    have h17 := (he 17 (by decide)).trans h17
    have h18 := (he 18 (by decide)).trans h18
    have h19 := (he 19 (by decide)).trans h19
    have h20 := (he 20 (by decide)).trans h20
    refine lv_bipush (v := 10) hx hb dX0_drawAnswer_48 (by decide) ?_
    obtain ⟨z6, hf⟩ := nz_e hf
    refine lv_irem hx hb dX0_drawAnswer_50 z6 ?_
    refine lv_iload hx hb dX0_drawAnswer_51 (lv_at hl 0 rfl) ?_
    refine lv_icmp_ge (tgt := 68) hx hb dX0_drawAnswer_53 (by decide) (fun c7 => ?_) (fun c7 => ?_)
    · have hf := it_e c7 hf
      refine lv_iload_n hx hb dX0_drawAnswer_68 rfl (lv_at hl 4 rfl) ?_
      obtain rfl := Option.some.inj hf
      rw [← hQ]
      exact e_zW hx hb hr rfl hbz_q3 hP hS ⟨hag, h84⟩ hlocks dX0_drawAnswer_69
    · have hf := ie_e c7 hf
      refine lv_iload_n hx hb dX0_drawAnswer_56 rfl (lv_at hl 4 rfl) ?_
      refine lv_if_ne (tgt := 64) hx hb dX0_drawAnswer_57 (by decide) (fun c8 => ?_) (fun c8 => ?_)
      · have hf := ie_e c8 hf
        refine lv_iconst (v := 0) hx hb dX0_drawAnswer_64 (by decide) ?_
        refine lv_goto (tgt := 69) hx hb dX0_drawAnswer_65 (by decide) ?_
        obtain rfl := Option.some.inj hf
        rw [← hQ]
        exact e_zW hx hb hr rfl bz0 hP hS ⟨hag, h84⟩ hlocks dX0_drawAnswer_69
      · have hf := it_e c8 hf
        refine lv_iconst (v := 1) hx hb dX0_drawAnswer_60 (by decide) ?_
        refine lv_goto (tgt := 69) hx hb dX0_drawAnswer_61 (by decide) ?_
        obtain rfl := Option.some.inj hf
        rw [← hQ]
        exact e_zW hx hb hr rfl bz1 hP hS ⟨hag, h84⟩ hlocks dX0_drawAnswer_69
  clear hf
  have hf := htq4
  refine lv_if_eq (tgt := 33) hx hb dX0_drawAnswer_18 (by decide) (fun c9 => ?_) (fun c9 => ?_)
  · have hf := it_e c9 hf
    refine lv_aload_n hx hb dX0_drawAnswer_33 rfl (lv_at hl 1 rfl) ?_
    refine r_get (own := RX0) (T := TX0) (n := 8) (ci := 0) (v := .ref (ad 5)) hx hb hts nX0 hown hK hP (by decide) h84 rfl 0 (by decide) k8 rfl dX0_drawAnswer_34 ?_
    refine r_getN (own := RX0) (T := TX7) (n := 16) (ci := 7) (v := .ref (ad 17)) hx hb hts nX7 hown hK hP (by decide) h5 rfl 11 (by decide) k9 rfl dX0_drawAnswer_37 ?_
    refine lv_iload_n hx hb dX0_drawAnswer_40 rfl (lv_at hl 3 rfl) ?_
    obtain ⟨i11, x10, ex10, hf⟩ := ri_e hf
    refine r_iald hx hb hK hP (by decide) h17 i11 dX0_drawAnswer_41 ex10 ?_
    obtain rfl := Option.some.inj hf
    exact jnq4 C H locs ls hP hS hag h5 h17 h18 h19 h20 h84 (lv_sub hl [1, 2, 3, 0] rfl)
  · have hf := ie_e c9 hf
    refine lv_aload_n hx hb dX0_drawAnswer_21 rfl (lv_at hl 1 rfl) ?_
    refine r_get (own := RX0) (T := TX0) (n := 8) (ci := 0) (v := .ref (ad 5)) hx hb hts nX0 hown hK hP (by decide) h84 rfl 0 (by decide) k8 rfl dX0_drawAnswer_22 ?_
    refine r_getN (own := RX0) (T := TX7) (n := 16) (ci := 7) (v := .ref (ad 18)) hx hb hts nX7 hown hK hP (by decide) h5 rfl 12 (by decide) k11 rfl dX0_drawAnswer_25 ?_
    refine lv_iload_n hx hb dX0_drawAnswer_28 rfl (lv_at hl 3 rfl) ?_
    obtain ⟨i13, x12, ex12, hf⟩ := ri_e hf
    refine r_iald hx hb hK hP (by decide) h18 i13 dX0_drawAnswer_29 ex12 ?_
    refine lv_goto (tgt := 42) hx hb dX0_drawAnswer_30 (by decide) ?_
    obtain rfl := Option.some.inj hf
    exact jnq4 C H locs ls hP hS hag h5 h17 h18 h19 h20 h84 (lv_sub hl [1, 2, 3, 0] rfl)

def LX0_leastOf_2 (p0 : Int32) (ko : Int32 → Option (Int32)) : Nat → Int32 → Option (Int32)
  | 0, _ => none
  | n + 1, x1 =>
    if 12 ≤ x1 then
      ko x1
    else
      (f_X10_has p0 x1).bind fun q4 =>
      if q4 = 0 then
        lt (x1 + 1 : Int32) fun x6 =>
        LX0_leastOf_2 p0 ko n x6
      else
        some (x1)
theorem LX0_leastOf_2_z (p0 : Int32) (ko : Int32 → Option (Int32)) (x1 : Int32) : LX0_leastOf_2 p0 ko 0 x1 = none := rfl
theorem LX0_leastOf_2_s (p0 : Int32) (ko : Int32 → Option (Int32)) (n : Nat) (x1 : Int32) : LX0_leastOf_2 p0 ko (n + 1) x1 =
    if 12 ≤ x1 then
      ko x1
    else
      (f_X10_has p0 x1).bind fun q4 =>
      if q4 = 0 then
        lt (x1 + 1 : Int32) fun x6 =>
        LX0_leastOf_2 p0 ko n x6
      else
        some (x1) := rfl
def f_X0_leastOf (p0 : Int32) : Option (Int32) :=
  LX0_leastOf_2 p0 (fun x2 =>
    some ((-1))) FU 0
abbrev rmX0_leastOf : Room := { frames := 1, cells := 0, slots := 0, locals := 21 }
set_option maxHeartbeats 4000000 in
set_option maxRecDepth 100000 in
theorem c_X0_leastOf {l : Launch} {sz : Nat}  {p0 : Int32} {rr : Int32} (hf : f_X0_leastOf p0 = some rr) : Met l yX0_leastOf wsX0_leastOf rmX0_leastOf (PcS sz [.int p0]) (QiR sz tP rr) 0 0 (An sz) := by
  refine Met.ofW (cc := cX0_leastOf) (maxL := 2) (ret := (some .int)) (by decide) rfl ?_
  intro p e s m args below meth c s₁ B hml hv
  obtain ⟨hav, hsz⟩ := hv
  subst hsz
  have hx := B.exec
  have hb := B.bytes
  have hr := B.returns
  have hts := atoms_spec (ws := wsX0_leastOf) B.pre
  have hown : s.vm.findClass RX0 = some m.cls := findClass_of_methodNamed B.named
  have hlocks := B.notSynchronized
  generalize hQ : MQ below (QiR s.heap.size tP rr) args s 0 0 (An s.heap.size) = QQ
  have hS : va_S (An s.heap.size) s.heap s.heap [] := va_S.rf
  have hA : ∀ q, s.heap.size ≤ q → (An s.heap.size) q := fun q h => h
  have k0 := nm_10 hK
  have k1 := hts (.initialized RX10) (List.mem_of_getElem? (i := 2) rfl)
  have k2 := hts (.static yX10_has) (List.mem_of_getElem? (i := 1) rfl)
  have hE := lg_entry_eq m [.int p0] 2
  rw [← hav] at hE
  rw [hE]
  have hl := lv_entry [.int p0] (n := 2) (Nat.le_of_ble_eq_true rfl)
  generalize (lg_sl [.int p0] ++ List.replicate (2 - (lg_sl [.int p0]).length) Slot.unset).toArray = ls at hl ⊢
  have hl : lv_has ls 2 [(0, .int p0)] := hl
  clear hE
  unfold f_X0_leastOf at hf
  suffices hgo : ∀ (H : Heap) (locs : List Loc), va_S (An s.heap.size) s.heap H locs → W p l e (headSpec wsX0_leastOf rmX0_leastOf).room s m args below meth c H locs 0 0 QQ (F0 m 0 ls []) from hgo s.heap [] hS
  clear hS
  intro H locs hS
  refine lv_iconst (v := 0) hx hb dX0_leastOf_0 (by decide) ?_
  refine lv_istore_n (lv' := [(1, .int 0), (0, .int p0)]) hx hb dX0_leastOf_1 rfl hl (by decide) rfl (fun ls hl => ?_)
  have key2 : ∀ (ko : Int32 → Option (Int32)), (∀ (x2 : Int32) (H : Heap) (locs : List Loc) (ls : Array Slot), va_S (An s.heap.size) s.heap H locs → lv_has ls 2 [(0, .int p0), (1, .int x2)] → ko x2 = some rr → W p l e (headSpec wsX0_leastOf rmX0_leastOf).room s m args below meth c H locs 0 0 QQ (F0 m 24 ls [])) → ∀ (n : Nat) (x1 : Int32) (H : Heap) (locs : List Loc) (ls : Array Slot), va_S (An s.heap.size) s.heap H locs → lv_has ls 2 [(0, .int p0), (1, .int x1)] → LX0_leastOf_2 p0 ko n x1 = some rr → W p l e (headSpec wsX0_leastOf rmX0_leastOf).room s m args below meth c H locs 0 0 QQ (F0 m 2 ls []) := by
    intro ko hko n
    induction n with
    | zero =>
      intro x1 H locs ls hS hl hf
      rw [LX0_leastOf_2_z] at hf
      cases hf
    | succ n ih =>
      intro x1 H locs ls hS hl hf
      rw [LX0_leastOf_2_s] at hf
      refine lv_iload_n hx hb dX0_leastOf_2 rfl (lv_at hl 1 rfl) ?_
      refine lv_bipush (v := 12) hx hb dX0_leastOf_3 (by decide) ?_
      refine lv_icmp_ge (tgt := 24) hx hb dX0_leastOf_5 (by decide) (fun c3 => ?_) (fun c3 => ?_)
      · have hf := it_e c3 hf
        exact hko x1 H locs ls hS (lv_sub hl [0, 1] rfl) hf
      · have hf := ie_e c3 hf
        refine lv_iload_n hx hb dX0_leastOf_8 rfl (lv_at hl 0 rfl) ?_
        refine lv_iload_n hx hb dX0_leastOf_9 rfl (lv_at hl 1 rfl) ?_
        obtain ⟨q4, hq4, hf⟩ := bd_e hf
        refine k_i0 (va_runSN (As := [.int p0, .int x1]) (rest := []) ⟨hx, hb, hml, hown, hts⟩ (c_X10_has (l := l) (sz := H.size) (p0 := p0) (p1 := x1) hq4) ⟨va_cnB 2 hts gX0_leastOf_X10_has_n82 rfl rfl rfl k0 k1 (by decide +kernel) ⟨Nat.le_of_ble_eq_true rfl, Nat.le_of_ble_eq_true rfl⟩, k2, trivial⟩ preS0 rfl rfl hl.1 rfl (lv_room (Nat.le_of_ble_eq_true rfl)) dX0_leastOf_10 ⟨Nat.le_refl _, Nat.le_refl _⟩) hA hS (fun H locs hS hbz_q4 => ?_)
        refine lv_if_eq (tgt := 18) hx hb dX0_leastOf_13 (by decide) (fun c5 => ?_) (fun c5 => ?_)
        · have hf := it_e c5 hf
          obtain ⟨x6, ex6, hf⟩ := lt_e hf
          refine lv_iinc (v := x6) (lv' := [(1, .int x6), (0, .int p0)]) hx hb dX0_leastOf_18 hl (k := 1) rfl (by rw [ex6]; rfl) (by decide) rfl (fun ls hl => ?_)
          refine lv_goto (tgt := 2) hx hb dX0_leastOf_21 (by decide) ?_
          exact ih x6 H locs ls hS (lv_sub hl [1, 0] rfl) hf
        · have hf := ie_e c5 hf
          refine lv_iload_n hx hb dX0_leastOf_16 rfl (lv_at hl 1 rfl) ?_
          obtain rfl := Option.some.inj hf
          rw [← hQ]
          exact e_iR hx hb hr rfl (tP_i _) hS hlocks dX0_leastOf_17
  refine key2 _ (fun x2 H locs ls hS hl hf => ?_) FU 0 H locs ls hS (lv_sub hl [1, 0] rfl) hf
  refine lv_iconst (v := (-1)) hx hb dX0_leastOf_24 (by decide) ?_
  obtain rfl := Option.some.inj hf
  rw [← hQ]
  exact e_iR hx hb hr rfl (tP_i _) hS hlocks dX0_leastOf_25

def f_X10_write (p0 : Int64) (p1 : Int32) (tx_len : Int32) (tx_b : Nat → Int32) : Option (Int32 × Int32 × (Nat → Int32)) :=
  if p1 < 1 then
    some ((-3), tx_len, tx_b)
  else
    if p1 ≤ 8 then
      if (tx_len + p1) ≤ 200 then
        (f_X5_append p0 p1 tx_len tx_b).bind fun q4 =>
        some (q4.1, q4.2.1, q4.2.2)
      else
        some ((-5), tx_len, tx_b)
    else
      some ((-3), tx_len, tx_b)
abbrev rmX10_write : Room := { frames := 1, cells := 0, slots := 0, locals := 24 }
set_option maxHeartbeats 4000000 in
set_option maxRecDepth 100000 in
theorem c_X10_write {l : Launch} {D : va_G} {g : Nat → ClassId} {ad : Nat → Nat} {C : Nat → va_E} {sz : Nat} {tx_len : Int32} {tx_lines : Int32} {tx_ts : Int32} {tx_te : Int32} {tx_b : Nat → Int32} {p0 : Int64} {p1 : Int32} {rr : Int32 × Int32 × (Nat → Int32)} (hI : Inj 109 ad) (h0 : C 0 = .inr (10, [.ref (ad 1), .ref (ad 5), .ref (ad 19), .ref (ad 21), .ref (ad 60), .ref (ad 77), .ref (ad 81), .ref (ad 84), .ref (ad 85)])) (h1 : C 1 = .inr (5, [.ref (ad 2), .ref (ad 3), .ref (ad 4), .int tx_len, .int tx_lines, .int tx_ts, .int tx_te])) (h2 : C 2 = aI g 200 tx_b) (hf : f_X10_write p0 p1 tx_len tx_b = some rr) : Met l yX10_write wsX10_write rmX10_write (PcW D g 109 ad C sz [.ref (ad 0), .long p0, .int p1]) (QiW D 109 ad sz tP rr.1 (fun C' => (∀ i : Nat, i ≠ 1 ∧ i ≠ 2 → C' i = C i) ∧ (C' 1 = .inr (5, [.ref (ad 2), .ref (ad 3), .ref (ad 4), .int rr.2.1, .int tx_lines, .int tx_ts, .int tx_te])) ∧ (C' 2 = aI g 200 rr.2.2))) 0 0 (Aw 109 ad sz) := by
  refine Met.ofW (cc := cX10_write) (maxL := 4) (ret := (some .int)) (by decide) rfl ?_
  intro p e s m args below meth c s₁ B hml hv
  obtain ⟨hav, hsz, hK, hP⟩ := hv
  subst hsz
  have hx := B.exec
  have hb := B.bytes
  have hr := B.returns
  have hts := atoms_spec (ws := wsX10_write) B.pre
  have hown : s.vm.findClass RX10 = some m.cls := findClass_of_methodNamed B.named
  have hlocks := B.notSynchronized
  generalize hQ : MQ below (QiW D 109 ad s.heap.size tP rr.1 (fun C' => (∀ i : Nat, i ≠ 1 ∧ i ≠ 2 → C' i = C i) ∧ (C' 1 = .inr (5, [.ref (ad 2), .ref (ad 3), .ref (ad 4), .int rr.2.1, .int tx_lines, .int tx_ts, .int tx_te])) ∧ (C' 2 = aI g 200 rr.2.2))) args s 0 0 (Aw 109 ad s.heap.size) = QQ
  have hS : va_S (Aw 109 ad s.heap.size) s.heap s.heap [] := va_S.rf
  have hA : ∀ q, s.heap.size ≤ q → (Aw 109 ad s.heap.size) q := fun q h => Or.inr h
  have hAd : ∀ j : Nat, j < 109 → (Aw 109 ad s.heap.size) (ad j) := fun j h => Or.inl ⟨j, h, rfl⟩
  obtain ⟨C0, hC0⟩ : ∃ C0 : Nat → va_E, C0 = C := ⟨_, rfl⟩
  have hag : ∀ i : Nat, i ≠ 1 ∧ i ≠ 2 → C i = C0 i := fun i _ => by rw [hC0]
  rw [← hC0] at hQ
  have k0 := hts (.fieldLink RX10 10 "UpDrain" "text" "LUpDrain$Text;") (List.mem_of_getElem? (i := 1) rfl)
  have nX10 : ∀ w ∈ u_ws RX10 TX10 9, w ∈ wsX10_write := fun _ h => List.mem_cons_of_mem _ (List.mem_append_left _ (List.mem_append_right _ h))
  have k2 := nf_2 (A := args) hK
  have nX5 : ∀ w ∈ u_ws RX5 TX5 7, w ∈ wsX10_write := fun _ h => List.mem_cons_of_mem _ (List.mem_append_right _ h)
  have hE := lg_entry_eq m [.ref (ad 0), .long p0, .int p1] 4
  rw [← hav] at hE
  rw [hE]
  have hl := lv_entry [.ref (ad 0), .long p0, .int p1] (n := 4) (Nat.le_of_ble_eq_true rfl)
  generalize (lg_sl [.ref (ad 0), .long p0, .int p1] ++ List.replicate (4 - (lg_sl [.ref (ad 0), .long p0, .int p1]).length) Slot.unset).toArray = ls at hl ⊢
  have hl : lv_has ls 4 [(0, .ref (ad 0)), (1, .long p0), (3, .int p1)] := hl
  clear hE
  unfold f_X10_write at hf
  suffices hgo : ∀ (H : Heap) (locs : List Loc), va_P D vwCl (wd 109 ad C) H → va_S (Aw 109 ad s.heap.size) s.heap H locs → W p l e (headSpec wsX10_write rmX10_write).room s m args below meth c H locs 0 0 QQ (F0 m 0 ls []) from hgo s.heap [] hP hS
  clear hS hP
  intro H locs hP hS
  refine lv_iload_n hx hb dX10_write_0 rfl (lv_at hl 2 rfl) ?_
  refine lv_iconst (v := 1) hx hb dX10_write_1 (by decide) ?_
  refine lv_icmp_lt (tgt := 11) hx hb dX10_write_2 (by decide) (fun c1 => ?_) (fun c1 => ?_)
  · have hf := it_e c1 hf
    refine lv_bipush (v := (-3)) hx hb dX10_write_11 (by decide) ?_
    obtain rfl := Option.some.inj hf
    rw [← hQ]
    exact e_iW hx hb hr rfl (tP_i _) hP hS ⟨hag, h1, h2⟩ hlocks dX10_write_13
  · have hf := ie_e c1 hf
    refine lv_iload_n hx hb dX10_write_5 rfl (lv_at hl 2 rfl) ?_
    refine lv_bipush (v := 8) hx hb dX10_write_6 (by decide) ?_
    refine lv_icmp_le (tgt := 14) hx hb dX10_write_8 (by decide) (fun c2 => ?_) (fun c2 => ?_)
    · have hf := it_e c2 hf
      refine lv_aload_n hx hb dX10_write_14 rfl (lv_at hl 0 rfl) ?_
      refine r_get (own := RX10) (T := TX10) (n := 9) (ci := 10) (v := .ref (ad 1)) hx hb hts nX10 hown hK hP (by decide) h0 rfl 0 (by decide) k0 rfl dX10_write_15 ?_
      refine r_getN (own := RX10) (T := TX5) (n := 7) (ci := 5) (v := .int tx_len) hx hb hts nX5 hown hK hP (by decide) h1 rfl 3 (by decide) k2 rfl dX10_write_18 ?_
      refine lv_iload_n hx hb dX10_write_21 rfl (lv_at hl 2 rfl) ?_
      refine lv_iadd hx hb dX10_write_22 ?_
      refine lv_sipush (v := 200) hx hb dX10_write_23 (by decide) ?_
      refine lv_icmp_le (tgt := 32) hx hb dX10_write_26 (by decide) (fun c3 => ?_) (fun c3 => ?_)
      · have hf := it_e c3 hf
        refine lv_aload_n hx hb dX10_write_32 rfl (lv_at hl 0 rfl) ?_
        refine r_get (own := RX10) (T := TX10) (n := 9) (ci := 10) (v := .ref (ad 1)) hx hb hts nX10 hown hK hP (by decide) h0 rfl 0 (by decide) k0 rfl dX10_write_33 ?_
        refine lv_lload_n hx hb dX10_write_36 rfl (lv_at hl 1 rfl) ?_
        refine lv_iload_n hx hb dX10_write_37 rfl (lv_at hl 2 rfl) ?_
        obtain ⟨q4, hq4, hf⟩ := bd_e hf
        refine k_iW (va_runV (C := RX5) (As := [.long p0, .int p1]) (rest := []) ⟨hx, hb, hml, hown, hts⟩ (c_X5_append (l := l) (sz := H.size) (p0 := p0) (p1 := p1) hI h1 h2 hq4) (cwV 2 hts gX10_write_X5_append rfl rfl rfl (by decide +kernel) ⟨Nat.le_of_ble_eq_true rfl, Nat.le_of_ble_eq_true rfl⟩) (preV_of hK hP (by decide) h1 rfl) rfl rfl hl.1 rfl (lv_room (Nat.le_of_ble_eq_true rfl)) dX10_write_38 ⟨Nat.le_refl _, Nat.le_refl _⟩) hA hAd hS (fun C H locs hP hS hpo hbz_q4 => ?_)
        obtain ⟨he, h1, h2⟩ := hpo
        have hag : ∀ i : Nat, i ≠ 1 ∧ i ≠ 2 → C i = C0 i := fun i h => (he i (by omega)).trans (hag i h)
        have h0 := (he 0 (by decide)).trans h0
        obtain rfl := Option.some.inj hf
        rw [← hQ]
        exact e_iW hx hb hr rfl (tP_i _) hP hS ⟨hag, h1, h2⟩ hlocks dX10_write_41
      · have hf := ie_e c3 hf
        refine lv_bipush (v := (-5)) hx hb dX10_write_29 (by decide) ?_
        obtain rfl := Option.some.inj hf
        rw [← hQ]
        exact e_iW hx hb hr rfl (tP_i _) hP hS ⟨hag, h1, h2⟩ hlocks dX10_write_31
    · have hf := ie_e c2 hf
      refine lv_bipush (v := (-3)) hx hb dX10_write_11 (by decide) ?_
      obtain rfl := Option.some.inj hf
      rw [← hQ]
      exact e_iW hx hb hr rfl (tP_i _) hP hS ⟨hag, h1, h2⟩ hlocks dX10_write_13

def f_X10_erase (tx_len : Int32) : Option (Int32 × Int32) :=
  (f_X5_empty tx_len).bind fun q1 =>
  some (q1.1, q1.2)
abbrev rmX10_erase : Room := { frames := 1, cells := 0, slots := 0, locals := 21 }
set_option maxHeartbeats 4000000 in
set_option maxRecDepth 100000 in
theorem c_X10_erase {l : Launch} {D : va_G} {g : Nat → ClassId} {ad : Nat → Nat} {C : Nat → va_E} {sz : Nat} {tx_len : Int32} {tx_lines : Int32} {tx_ts : Int32} {tx_te : Int32}  {rr : Int32 × Int32} (hI : Inj 109 ad) (h0 : C 0 = .inr (10, [.ref (ad 1), .ref (ad 5), .ref (ad 19), .ref (ad 21), .ref (ad 60), .ref (ad 77), .ref (ad 81), .ref (ad 84), .ref (ad 85)])) (h1 : C 1 = .inr (5, [.ref (ad 2), .ref (ad 3), .ref (ad 4), .int tx_len, .int tx_lines, .int tx_ts, .int tx_te])) (hf : f_X10_erase tx_len = some rr) : Met l yX10_erase wsX10_erase rmX10_erase (PcW D g 109 ad C sz [.ref (ad 0)]) (QiW D 109 ad sz tP rr.1 (fun C' => (∀ i : Nat, i ≠ 1 → C' i = C i) ∧ (C' 1 = .inr (5, [.ref (ad 2), .ref (ad 3), .ref (ad 4), .int rr.2, .int tx_lines, .int tx_ts, .int tx_te])))) 0 0 (Aw 109 ad sz) := by
  refine Met.ofW (cc := cX10_erase) (maxL := 1) (ret := (some .int)) (by decide) rfl ?_
  intro p e s m args below meth c s₁ B hml hv
  obtain ⟨hav, hsz, hK, hP⟩ := hv
  subst hsz
  have hx := B.exec
  have hb := B.bytes
  have hr := B.returns
  have hts := atoms_spec (ws := wsX10_erase) B.pre
  have hown : s.vm.findClass RX10 = some m.cls := findClass_of_methodNamed B.named
  have hlocks := B.notSynchronized
  generalize hQ : MQ below (QiW D 109 ad s.heap.size tP rr.1 (fun C' => (∀ i : Nat, i ≠ 1 → C' i = C i) ∧ (C' 1 = .inr (5, [.ref (ad 2), .ref (ad 3), .ref (ad 4), .int rr.2, .int tx_lines, .int tx_ts, .int tx_te])))) args s 0 0 (Aw 109 ad s.heap.size) = QQ
  have hS : va_S (Aw 109 ad s.heap.size) s.heap s.heap [] := va_S.rf
  have hA : ∀ q, s.heap.size ≤ q → (Aw 109 ad s.heap.size) q := fun q h => Or.inr h
  have hAd : ∀ j : Nat, j < 109 → (Aw 109 ad s.heap.size) (ad j) := fun j h => Or.inl ⟨j, h, rfl⟩
  obtain ⟨C0, hC0⟩ : ∃ C0 : Nat → va_E, C0 = C := ⟨_, rfl⟩
  have hag : ∀ i : Nat, i ≠ 1 → C i = C0 i := fun i _ => by rw [hC0]
  rw [← hC0] at hQ
  have k0 := hts (.fieldLink RX10 10 "UpDrain" "text" "LUpDrain$Text;") (List.mem_of_getElem? (i := 1) rfl)
  have nX10 : ∀ w ∈ u_ws RX10 TX10 9, w ∈ wsX10_erase := fun _ h => List.mem_cons_of_mem _ (List.mem_append_left _ (List.mem_append_right _ h))
  have hE := lg_entry_eq m [.ref (ad 0)] 1
  rw [← hav] at hE
  rw [hE]
  have hl := lv_entry [.ref (ad 0)] (n := 1) (Nat.le_of_ble_eq_true rfl)
  generalize (lg_sl [.ref (ad 0)] ++ List.replicate (1 - (lg_sl [.ref (ad 0)]).length) Slot.unset).toArray = ls at hl ⊢
  have hl : lv_has ls 1 [(0, .ref (ad 0))] := hl
  clear hE
  unfold f_X10_erase at hf
  suffices hgo : ∀ (H : Heap) (locs : List Loc), va_P D vwCl (wd 109 ad C) H → va_S (Aw 109 ad s.heap.size) s.heap H locs → W p l e (headSpec wsX10_erase rmX10_erase).room s m args below meth c H locs 0 0 QQ (F0 m 0 ls []) from hgo s.heap [] hP hS
  clear hS hP
  intro H locs hP hS
  refine lv_aload_n hx hb dX10_erase_0 rfl (lv_at hl 0 rfl) ?_
  refine r_get (own := RX10) (T := TX10) (n := 9) (ci := 10) (v := .ref (ad 1)) hx hb hts nX10 hown hK hP (by decide) h0 rfl 0 (by decide) k0 rfl dX10_erase_1 ?_
  obtain ⟨q1, hq1, hf⟩ := bd_e hf
  refine k_iW (va_runV (C := RX5) (As := []) (rest := []) ⟨hx, hb, hml, hown, hts⟩ (c_X5_empty (l := l) (sz := H.size)  hI h1 hq1) (cwV 0 hts gX10_erase_X5_empty rfl rfl rfl (by decide +kernel) ⟨Nat.le_of_ble_eq_true rfl, Nat.le_of_ble_eq_true rfl⟩) (preV_of hK hP (by decide) h1 rfl) rfl rfl hl.1 rfl (lv_room (Nat.le_of_ble_eq_true rfl)) dX10_erase_4 ⟨Nat.le_refl _, Nat.le_refl _⟩) hA hAd hS (fun C H locs hP hS hpo hbz_q1 => ?_)
  obtain ⟨he, h1⟩ := hpo
  have hag : ∀ i : Nat, i ≠ 1 → C i = C0 i := fun i h => (he i (by omega)).trans (hag i h)
  have h0 := (he 0 (by decide)).trans h0
  obtain rfl := Option.some.inj hf
  rw [← hQ]
  exact e_iW hx hb hr rfl (tP_i _) hP hS ⟨hag, h1⟩ hlocks dX10_erase_7

def f_X10_lookAgain (t_down : Nat → Int32) (t_min : Nat → Int32) (t_gone : Nat → Int32) (t_infl : Nat → Int32) (t_lik : Nat → Int32) (t_str : Nat → Int32) (t_from : Nat → Int32) (t_unt : Nat → Int32) (t_there : Int32) (w_src : Int32) (w_over : Nat → Int32) (wa_g : Nat → Int32) (th_k1 : Int32) (th_k2 : Int32) (h_solved : Int32) (sL : Nat → Nat → Int32) (sT : Nat → Nat → Int32) (sF : Nat → Int32) (sU : Nat → Int32) : Option (Int32 × (Nat → Int32) × (Nat → Int32) × Int32 × Int32 × Int32 × (Nat → Nat → Int32) × (Nat → Nat → Int32) × (Nat → Int32) × (Nat → Int32)) :=
  (f_X9_renew t_down t_lik t_there w_src w_over).bind fun q1 =>
  (f_X8_renew t_down t_min t_gone t_infl t_str t_from t_unt t_there q1.2 wa_g sL sT sF sU).bind fun q2 =>
  (f_X6_doubt th_k1 th_k2).bind fun q3 =>
  (f_X2_doubt h_solved).bind fun q4 =>
  some (q1.1, q1.2, q2.1, q3.1, q3.2, q4, q2.2.1, q2.2.2.1, q2.2.2.2.1, q2.2.2.2.2)
abbrev rmX10_lookAgain : Room := { frames := 3, cells := 0, slots := 0, locals := 65 }
set_option maxHeartbeats 4000000 in
set_option maxRecDepth 100000 in
theorem c_X10_lookAgain {l : Launch} {D : va_G} {g : Nat → ClassId} {ad : Nat → Nat} {C : Nat → va_E} {sz : Nat} {t_there : Int32} {t_lift : Int32} {t_none : Int32} {t_down : Nat → Int32} {t_min : Nat → Int32} {t_gone : Nat → Int32} {t_infl : Nat → Int32} {t_lik : Nat → Int32} {t_str : Nat → Int32} {t_from : Nat → Int32} {t_unt : Nat → Int32} {w_src : Int32} {w_over : Nat → Int32} {wa_g : Nat → Int32} {th_none : Int64} {th_all1 : Int64} {th_all2 : Int64} {th_k1 : Int32} {th_k2 : Int32} {th_size : Int32} {h_solved : Int32} {sL : Nat → Nat → Int32} {sT : Nat → Nat → Int32} {sF : Nat → Int32} {sU : Nat → Int32}  {rr : Int32 × (Nat → Int32) × (Nat → Int32) × Int32 × Int32 × Int32 × (Nat → Nat → Int32) × (Nat → Nat → Int32) × (Nat → Int32) × (Nat → Int32)} (hI : Inj 109 ad) (h0 : C 0 = .inr (10, [.ref (ad 1), .ref (ad 5), .ref (ad 19), .ref (ad 21), .ref (ad 60), .ref (ad 77), .ref (ad 81), .ref (ad 84), .ref (ad 85)])) (h5 : C 5 = .inr (7, [.ref (ad 6), .ref (ad 7), .ref (ad 8), .ref (ad 9), .ref (ad 10), .ref (ad 11), .ref (ad 12), .ref (ad 13), .ref (ad 14), .ref (ad 15), .ref (ad 16), .ref (ad 17), .ref (ad 18), .int t_there, .int t_lift, .int t_none])) (h6 : C 6 = aI g 12 t_down) (h7 : C 7 = aI g 12 t_min) (h9 : C 9 = aI g 12 t_gone) (h10 : C 10 = aI g 12 t_infl) (h11 : C 11 = aI g 12 t_lik) (h12 : C 12 = aI g 12 t_str) (h13 : C 13 = aI g 12 t_from) (h14 : C 14 = aI g 12 t_unt) (h19 : C 19 = .inr (9, [.ref (ad 5), .ref (ad 20), .int w_src])) (h20 : C 20 = aI g 12 w_over) (h21 : C 21 = .inr (8, [.ref (ad 5), .ref (ad 19), .ref (ad 22), .ref (ad 23)])) (h22 : C 22 = aI g 12 wa_g) (h23 : C 23 = aS g 12 (fun i => some (ad (24 + 3 * i)))) (h60 : C 60 = .inr (6, [.ref (ad 5), .ref (ad 19), .ref (ad 21), .ref (ad 61), .ref (ad 62), .ref (ad 65), .ref (ad 66), .long th_none, .long th_all1, .long th_all2, .int th_k1, .int th_k2, .int th_size])) (h77 : C 77 = .inr (2, [.ref (ad 5), .ref (ad 19), .ref (ad 78), .ref (ad 79), .ref (ad 80), .int h_solved])) (hS_ : PoolS g ad C sL sT sF sU) (hf : f_X10_lookAgain t_down t_min t_gone t_infl t_lik t_str t_from t_unt t_there w_src w_over wa_g th_k1 th_k2 h_solved sL sT sF sU = some rr) : Met l yX10_lookAgain wsX10_lookAgain rmX10_lookAgain (PcW D g 109 ad C sz [.ref (ad 0)]) (QvW D 109 ad sz (fun C' => (∀ i : Nat, i ≠ 19 ∧ i ≠ 20 ∧ i ≠ 22 ∧ i ≠ 60 ∧ i ≠ 77 ∧ (i < 24 ∨ 64 < i ∨ i = 60 ∨ i = 61) → C' i = C i) ∧ (C' 19 = .inr (9, [.ref (ad 5), .ref (ad 20), .int rr.1])) ∧ (C' 20 = aI g 12 rr.2.1) ∧ (C' 22 = aI g 12 rr.2.2.1) ∧ (C' 60 = .inr (6, [.ref (ad 5), .ref (ad 19), .ref (ad 21), .ref (ad 61), .ref (ad 62), .ref (ad 65), .ref (ad 66), .long th_none, .long th_all1, .long th_all2, .int rr.2.2.2.1, .int rr.2.2.2.2.1, .int th_size])) ∧ (C' 77 = .inr (2, [.ref (ad 5), .ref (ad 19), .ref (ad 78), .ref (ad 79), .ref (ad 80), .int rr.2.2.2.2.2.1])) ∧ (PoolS g ad C' rr.2.2.2.2.2.2.1 rr.2.2.2.2.2.2.2.1 rr.2.2.2.2.2.2.2.2.1 rr.2.2.2.2.2.2.2.2.2))) 0 0 (Aw 109 ad sz) := by
  refine Met.ofW (cc := cX10_lookAgain) (maxL := 1) (ret := none) (by decide) rfl ?_
  intro p e s m args below meth c s₁ B hml hv
  obtain ⟨hav, hsz, hK, hP⟩ := hv
  subst hsz
  have hx := B.exec
  have hb := B.bytes
  have hr := B.returns
  have hts := atoms_spec (ws := wsX10_lookAgain) B.pre
  have hown : s.vm.findClass RX10 = some m.cls := findClass_of_methodNamed B.named
  have hlocks := B.notSynchronized
  generalize hQ : MQ below (QvW D 109 ad s.heap.size (fun C' => (∀ i : Nat, i ≠ 19 ∧ i ≠ 20 ∧ i ≠ 22 ∧ i ≠ 60 ∧ i ≠ 77 ∧ (i < 24 ∨ 64 < i ∨ i = 60 ∨ i = 61) → C' i = C i) ∧ (C' 19 = .inr (9, [.ref (ad 5), .ref (ad 20), .int rr.1])) ∧ (C' 20 = aI g 12 rr.2.1) ∧ (C' 22 = aI g 12 rr.2.2.1) ∧ (C' 60 = .inr (6, [.ref (ad 5), .ref (ad 19), .ref (ad 21), .ref (ad 61), .ref (ad 62), .ref (ad 65), .ref (ad 66), .long th_none, .long th_all1, .long th_all2, .int rr.2.2.2.1, .int rr.2.2.2.2.1, .int th_size])) ∧ (C' 77 = .inr (2, [.ref (ad 5), .ref (ad 19), .ref (ad 78), .ref (ad 79), .ref (ad 80), .int rr.2.2.2.2.2.1])) ∧ (PoolS g ad C' rr.2.2.2.2.2.2.1 rr.2.2.2.2.2.2.2.1 rr.2.2.2.2.2.2.2.2.1 rr.2.2.2.2.2.2.2.2.2))) args s 0 0 (Aw 109 ad s.heap.size) = QQ
  have hS : va_S (Aw 109 ad s.heap.size) s.heap s.heap [] := va_S.rf
  have hA : ∀ q, s.heap.size ≤ q → (Aw 109 ad s.heap.size) q := fun q h => Or.inr h
  have hAd : ∀ j : Nat, j < 109 → (Aw 109 ad s.heap.size) (ad j) := fun j h => Or.inl ⟨j, h, rfl⟩
  obtain ⟨C0, hC0⟩ : ∃ C0 : Nat → va_E, C0 = C := ⟨_, rfl⟩
  have hag : ∀ i : Nat, i ≠ 19 ∧ i ≠ 20 ∧ i ≠ 22 ∧ i ≠ 60 ∧ i ≠ 77 ∧ (i < 24 ∨ 64 < i ∨ i = 60 ∨ i = 61) → C i = C0 i := fun i _ => by rw [hC0]
  rw [← hC0] at hQ
  have k0 := hts (.fieldLink RX10 28 "UpDrain" "ways" "LUpDrain$Ways;") (List.mem_of_getElem? (i := 1) rfl)
  have nX10 : ∀ w ∈ u_ws RX10 TX10 9, w ∈ wsX10_lookAgain := fun _ h => List.mem_cons_of_mem _ (List.mem_append_left _ (List.mem_append_left _ (List.mem_append_left _ (List.mem_append_left _ (List.mem_append_left _ (List.mem_append_left _ (List.mem_append_right _ h)))))))
  have k2 := hts (.fieldLink RX10 37 "UpDrain" "water" "LUpDrain$Water;") (List.mem_of_getElem? (i := 2) rfl)
  have k3 := hts (.fieldLink RX10 46 "UpDrain" "thoughts" "LUpDrain$Thoughts;") (List.mem_of_getElem? (i := 3) rfl)
  have k4 := hts (.fieldLink RX10 53 "UpDrain" "hunt" "LUpDrain$Hunt;") (List.mem_of_getElem? (i := 4) rfl)
  have hE := lg_entry_eq m [.ref (ad 0)] 1
  rw [← hav] at hE
  rw [hE]
  have hl := lv_entry [.ref (ad 0)] (n := 1) (Nat.le_of_ble_eq_true rfl)
  generalize (lg_sl [.ref (ad 0)] ++ List.replicate (1 - (lg_sl [.ref (ad 0)]).length) Slot.unset).toArray = ls at hl ⊢
  have hl : lv_has ls 1 [(0, .ref (ad 0))] := hl
  clear hE
  unfold f_X10_lookAgain at hf
  suffices hgo : ∀ (H : Heap) (locs : List Loc), va_P D vwCl (wd 109 ad C) H → va_S (Aw 109 ad s.heap.size) s.heap H locs → W p l e (headSpec wsX10_lookAgain rmX10_lookAgain).room s m args below meth c H locs 0 0 QQ (F0 m 0 ls []) from hgo s.heap [] hP hS
  clear hS hP
  intro H locs hP hS
  refine lv_aload_n hx hb dX10_lookAgain_0 rfl (lv_at hl 0 rfl) ?_
  refine r_get (own := RX10) (T := TX10) (n := 9) (ci := 10) (v := .ref (ad 19)) hx hb hts nX10 hown hK hP (by decide) h0 rfl 2 (by decide) k0 rfl dX10_lookAgain_1 ?_
  obtain ⟨q1, hq1, hf⟩ := bd_e hf
  refine k_vW (va_runV (C := RX9) (As := []) (rest := []) ⟨hx, hb, hml, hown, hts⟩ (c_X9_renew (l := l) (sz := H.size)  hI h5 h6 h11 h19 h20 hq1) (cwV 0 hts gX10_lookAgain_X9_renew rfl rfl rfl (by decide +kernel) ⟨Nat.le_of_ble_eq_true rfl, Nat.le_of_ble_eq_true rfl⟩) (preV_of hK hP (by decide) h19 rfl) rfl rfl hl.1 rfl (lv_room (Nat.le_of_ble_eq_true rfl)) dX10_lookAgain_4 ⟨Nat.le_refl _, Nat.le_refl _⟩) hA hAd hS (fun C H locs hP hS hpo => ?_)
  obtain ⟨he, h19, h20⟩ := hpo
  have hag : ∀ i : Nat, i ≠ 19 ∧ i ≠ 20 ∧ i ≠ 22 ∧ i ≠ 60 ∧ i ≠ 77 ∧ (i < 24 ∨ 64 < i ∨ i = 60 ∨ i = 61) → C i = C0 i := fun i h => (he i (by omega)).trans (hag i h)
  have h0 := (he 0 (by decide)).trans h0
  have h5 := (he 5 (by decide)).trans h5
  have h6 := (he 6 (by decide)).trans h6
  have h7 := (he 7 (by decide)).trans h7
  have h9 := (he 9 (by decide)).trans h9
  have h10 := (he 10 (by decide)).trans h10
  have h11 := (he 11 (by decide)).trans h11
  have h12 := (he 12 (by decide)).trans h12
  have h13 := (he 13 (by decide)).trans h13
  have h14 := (he 14 (by decide)).trans h14
  have h21 := (he 21 (by decide)).trans h21
  have h22 := (he 22 (by decide)).trans h22
  have h23 := (he 23 (by decide)).trans h23
  have h60 := (he 60 (by decide)).trans h60
  have h77 := (he 77 (by decide)).trans h77
  have hS_ := hS_.ne (fun i h1 h2 => he i (by omega))
  refine lv_aload_n hx hb dX10_lookAgain_7 rfl (lv_at hl 0 rfl) ?_
  refine r_get (own := RX10) (T := TX10) (n := 9) (ci := 10) (v := .ref (ad 21)) hx hb hts nX10 hown hK hP (by decide) h0 rfl 3 (by decide) k2 rfl dX10_lookAgain_8 ?_
  obtain ⟨q2, hq2, hf⟩ := bd_e hf
  refine k_vW (va_runV (C := RX8) (As := []) (rest := []) ⟨hx, hb, hml, hown, hts⟩ (c_X8_renew (l := l) (sz := H.size)  hI h5 h6 h7 h9 h10 h12 h13 h14 h19 h20 h21 h22 h23 hS_ hq2) (cwV 0 hts gX10_lookAgain_X8_renew rfl rfl rfl (by decide +kernel) ⟨Nat.le_of_ble_eq_true rfl, Nat.le_of_ble_eq_true rfl⟩) (preV_of hK hP (by decide) h21 rfl) rfl rfl hl.1 rfl (lv_room (Nat.le_of_ble_eq_true rfl)) dX10_lookAgain_11 ⟨Nat.le_refl _, Nat.le_refl _⟩) hA hAd hS (fun C H locs hP hS hpo => ?_)
  obtain ⟨he, h22, hS_⟩ := hpo
  have hag : ∀ i : Nat, i ≠ 19 ∧ i ≠ 20 ∧ i ≠ 22 ∧ i ≠ 60 ∧ i ≠ 77 ∧ (i < 24 ∨ 64 < i ∨ i = 60 ∨ i = 61) → C i = C0 i := fun i h => (he i (by omega)).trans (hag i h)
  have h0 := (he 0 (by decide)).trans h0
  have h5 := (he 5 (by decide)).trans h5
  have h6 := (he 6 (by decide)).trans h6
  have h7 := (he 7 (by decide)).trans h7
  have h9 := (he 9 (by decide)).trans h9
  have h10 := (he 10 (by decide)).trans h10
  have h11 := (he 11 (by decide)).trans h11
  have h12 := (he 12 (by decide)).trans h12
  have h13 := (he 13 (by decide)).trans h13
  have h14 := (he 14 (by decide)).trans h14
  have h19 := (he 19 (by decide)).trans h19
  have h20 := (he 20 (by decide)).trans h20
  have h21 := (he 21 (by decide)).trans h21
  have h23 := (he 23 (by decide)).trans h23
  have h60 := (he 60 (by decide)).trans h60
  have h77 := (he 77 (by decide)).trans h77
  refine lv_aload_n hx hb dX10_lookAgain_14 rfl (lv_at hl 0 rfl) ?_
  refine r_get (own := RX10) (T := TX10) (n := 9) (ci := 10) (v := .ref (ad 60)) hx hb hts nX10 hown hK hP (by decide) h0 rfl 4 (by decide) k3 rfl dX10_lookAgain_15 ?_
  obtain ⟨q3, hq3, hf⟩ := bd_e hf
  refine k_vW (va_runV (C := RX6) (As := []) (rest := []) ⟨hx, hb, hml, hown, hts⟩ (c_X6_doubt (l := l) (sz := H.size)  hI h60 hq3) (cwV 0 hts gX10_lookAgain_X6_doubt rfl rfl rfl (by decide +kernel) ⟨Nat.le_of_ble_eq_true rfl, Nat.le_of_ble_eq_true rfl⟩) (preV_of hK hP (by decide) h60 rfl) rfl rfl hl.1 rfl (lv_room (Nat.le_of_ble_eq_true rfl)) dX10_lookAgain_18 ⟨Nat.le_refl _, Nat.le_refl _⟩) hA hAd hS (fun C H locs hP hS hpo => ?_)
  obtain ⟨he, h60⟩ := hpo
  have hag : ∀ i : Nat, i ≠ 19 ∧ i ≠ 20 ∧ i ≠ 22 ∧ i ≠ 60 ∧ i ≠ 77 ∧ (i < 24 ∨ 64 < i ∨ i = 60 ∨ i = 61) → C i = C0 i := fun i h => (he i (by omega)).trans (hag i h)
  have h0 := (he 0 (by decide)).trans h0
  have h5 := (he 5 (by decide)).trans h5
  have h6 := (he 6 (by decide)).trans h6
  have h7 := (he 7 (by decide)).trans h7
  have h9 := (he 9 (by decide)).trans h9
  have h10 := (he 10 (by decide)).trans h10
  have h11 := (he 11 (by decide)).trans h11
  have h12 := (he 12 (by decide)).trans h12
  have h13 := (he 13 (by decide)).trans h13
  have h14 := (he 14 (by decide)).trans h14
  have h19 := (he 19 (by decide)).trans h19
  have h20 := (he 20 (by decide)).trans h20
  have h21 := (he 21 (by decide)).trans h21
  have h22 := (he 22 (by decide)).trans h22
  have h23 := (he 23 (by decide)).trans h23
  have h77 := (he 77 (by decide)).trans h77
  have hS_ := hS_.ne (fun i h1 h2 => he i (by omega))
  refine lv_aload_n hx hb dX10_lookAgain_21 rfl (lv_at hl 0 rfl) ?_
  refine r_get (own := RX10) (T := TX10) (n := 9) (ci := 10) (v := .ref (ad 77)) hx hb hts nX10 hown hK hP (by decide) h0 rfl 5 (by decide) k4 rfl dX10_lookAgain_22 ?_
  obtain ⟨q4, hq4, hf⟩ := bd_e hf
  refine k_vW (va_runV (C := RX2) (As := []) (rest := []) ⟨hx, hb, hml, hown, hts⟩ (c_X2_doubt (l := l) (sz := H.size)  hI h77 hq4) (cwV 0 hts gX10_lookAgain_X2_doubt rfl rfl rfl (by decide +kernel) ⟨Nat.le_of_ble_eq_true rfl, Nat.le_of_ble_eq_true rfl⟩) (preV_of hK hP (by decide) h77 rfl) rfl rfl hl.1 rfl (lv_room (Nat.le_of_ble_eq_true rfl)) dX10_lookAgain_25 ⟨Nat.le_refl _, Nat.le_refl _⟩) hA hAd hS (fun C H locs hP hS hpo => ?_)
  obtain ⟨he, h77⟩ := hpo
  have hag : ∀ i : Nat, i ≠ 19 ∧ i ≠ 20 ∧ i ≠ 22 ∧ i ≠ 60 ∧ i ≠ 77 ∧ (i < 24 ∨ 64 < i ∨ i = 60 ∨ i = 61) → C i = C0 i := fun i h => (he i (by omega)).trans (hag i h)
  have h0 := (he 0 (by decide)).trans h0
  have h5 := (he 5 (by decide)).trans h5
  have h6 := (he 6 (by decide)).trans h6
  have h7 := (he 7 (by decide)).trans h7
  have h9 := (he 9 (by decide)).trans h9
  have h10 := (he 10 (by decide)).trans h10
  have h11 := (he 11 (by decide)).trans h11
  have h12 := (he 12 (by decide)).trans h12
  have h13 := (he 13 (by decide)).trans h13
  have h14 := (he 14 (by decide)).trans h14
  have h19 := (he 19 (by decide)).trans h19
  have h20 := (he 20 (by decide)).trans h20
  have h21 := (he 21 (by decide)).trans h21
  have h22 := (he 22 (by decide)).trans h22
  have h23 := (he 23 (by decide)).trans h23
  have h60 := (he 60 (by decide)).trans h60
  have hS_ := hS_.ne (fun i h1 h2 => he i (by omega))
  obtain rfl := Option.some.inj hf
  rw [← hQ]
  exact e_vW hx hb hr hP hS ⟨hag, h19, h20, h22, h60, h77, hS_⟩ hlocks dX10_lookAgain_28

def f_X10_isThere (p0 : Int32) (t_there : Int32) : Option (Int32) :=
  if p0 < 0 then
    some (0)
  else
    if 12 ≤ p0 then
      some (0)
    else
      (f_X10_has t_there p0).bind fun q3 =>
      if q3 = 0 then
        some (0)
      else
        some (1)
abbrev rmX10_isThere : Room := { frames := 1, cells := 0, slots := 0, locals := 21 }
set_option maxHeartbeats 4000000 in
set_option maxRecDepth 100000 in
theorem c_X10_isThere {l : Launch} {D : va_G} {g : Nat → ClassId} {ad : Nat → Nat} {C : Nat → va_E} {sz : Nat} {t_there : Int32} {t_lift : Int32} {t_none : Int32} {p0 : Int32} {rr : Int32} (h0 : C 0 = .inr (10, [.ref (ad 1), .ref (ad 5), .ref (ad 19), .ref (ad 21), .ref (ad 60), .ref (ad 77), .ref (ad 81), .ref (ad 84), .ref (ad 85)])) (h5 : C 5 = .inr (7, [.ref (ad 6), .ref (ad 7), .ref (ad 8), .ref (ad 9), .ref (ad 10), .ref (ad 11), .ref (ad 12), .ref (ad 13), .ref (ad 14), .ref (ad 15), .ref (ad 16), .ref (ad 17), .ref (ad 18), .int t_there, .int t_lift, .int t_none])) (hf : f_X10_isThere p0 t_there = some rr) : Met l yX10_isThere wsX10_isThere rmX10_isThere (PcW D g 109 ad C sz [.ref (ad 0), .int p0]) (QiR sz bz rr) 0 0 (An sz) := by
  refine Met.ofW (cc := cX10_isThere) (maxL := 2) (ret := (some .boolean)) (by decide) rfl ?_
  intro p e s m args below meth c s₁ B hml hv
  obtain ⟨hav, hsz, hK, hP⟩ := hv
  subst hsz
  have hx := B.exec
  have hb := B.bytes
  have hr := B.returns
  have hts := atoms_spec (ws := wsX10_isThere) B.pre
  have hown : s.vm.findClass RX10 = some m.cls := findClass_of_methodNamed B.named
  have hlocks := B.notSynchronized
  generalize hQ : MQ below (QiR s.heap.size bz rr) args s 0 0 (An s.heap.size) = QQ
  have hS : va_S (An s.heap.size) s.heap s.heap [] := va_S.rf
  have hA : ∀ q, s.heap.size ≤ q → (An s.heap.size) q := fun q h => h
  have k0 := hts (.fieldLink RX10 19 "UpDrain" "plan" "LUpDrain$Town;") (List.mem_of_getElem? (i := 1) rfl)
  have nX10 : ∀ w ∈ u_ws RX10 TX10 9, w ∈ wsX10_isThere := fun _ h => List.mem_cons_of_mem _ (List.mem_append_left _ (List.mem_append_right _ h))
  have k2 := nf_40 (A := args) hK
  have nX7 : ∀ w ∈ u_ws RX7 TX7 16, w ∈ wsX10_isThere := fun _ h => List.mem_cons_of_mem _ (List.mem_append_right _ h)
  have hE := lg_entry_eq m [.ref (ad 0), .int p0] 2
  rw [← hav] at hE
  rw [hE]
  have hl := lv_entry [.ref (ad 0), .int p0] (n := 2) (Nat.le_of_ble_eq_true rfl)
  generalize (lg_sl [.ref (ad 0), .int p0] ++ List.replicate (2 - (lg_sl [.ref (ad 0), .int p0]).length) Slot.unset).toArray = ls at hl ⊢
  have hl : lv_has ls 2 [(0, .ref (ad 0)), (1, .int p0)] := hl
  clear hE
  unfold f_X10_isThere at hf
  suffices hgo : ∀ (H : Heap) (locs : List Loc), va_P D vwCl (wd 109 ad C) H → va_S (An s.heap.size) s.heap H locs → W p l e (headSpec wsX10_isThere rmX10_isThere).room s m args below meth c H locs 0 0 QQ (F0 m 0 ls []) from hgo s.heap [] hP hS
  clear hS hP
  intro H locs hP hS
  refine lv_iload_n hx hb dX10_isThere_0 rfl (lv_at hl 1 rfl) ?_
  refine lv_if_lt (tgt := 28) hx hb dX10_isThere_1 (by decide) (fun c1 => ?_) (fun c1 => ?_)
  · have hf := it_e c1 hf
    refine lv_iconst (v := 0) hx hb dX10_isThere_28 (by decide) ?_
    obtain rfl := Option.some.inj hf
    rw [← hQ]
    exact e_zR hx hb hr rfl bz0 hS hlocks dX10_isThere_29
  · have hf := ie_e c1 hf
    refine lv_iload_n hx hb dX10_isThere_4 rfl (lv_at hl 1 rfl) ?_
    refine lv_bipush (v := 12) hx hb dX10_isThere_5 (by decide) ?_
    refine lv_icmp_ge (tgt := 28) hx hb dX10_isThere_7 (by decide) (fun c2 => ?_) (fun c2 => ?_)
    · have hf := it_e c2 hf
      refine lv_iconst (v := 0) hx hb dX10_isThere_28 (by decide) ?_
      obtain rfl := Option.some.inj hf
      rw [← hQ]
      exact e_zR hx hb hr rfl bz0 hS hlocks dX10_isThere_29
    · have hf := ie_e c2 hf
      refine lv_aload_n hx hb dX10_isThere_10 rfl (lv_at hl 0 rfl) ?_
      refine r_get (own := RX10) (T := TX10) (n := 9) (ci := 10) (v := .ref (ad 5)) hx hb hts nX10 hown hK hP (by decide) h0 rfl 1 (by decide) k0 rfl dX10_isThere_11 ?_
      refine r_getN (own := RX10) (T := TX7) (n := 16) (ci := 7) (v := .int t_there) hx hb hts nX7 hown hK hP (by decide) h5 rfl 13 (by decide) k2 rfl dX10_isThere_14 ?_
      refine lv_iload_n hx hb dX10_isThere_17 rfl (lv_at hl 1 rfl) ?_
      obtain ⟨q3, hq3, hf⟩ := bd_e hf
      refine k_iR (va_runS (As := [.int t_there, .int p0]) (rest := []) ⟨hx, hb, hml, hown, hts⟩ (c_X10_has (l := l) (sz := H.size) (p0 := t_there) (p1 := p0) hq3) (va_cwS 2 hts gX10_isThere_X10_has rfl rfl rfl (by decide +kernel) ⟨Nat.le_of_ble_eq_true rfl, Nat.le_of_ble_eq_true rfl⟩) preS0 rfl rfl hl.1 rfl (lv_room (Nat.le_of_ble_eq_true rfl)) dX10_isThere_18 ⟨Nat.le_refl _, Nat.le_refl _⟩) hA hP hS (fun H locs hP hS hbz_q3 => ?_)
      refine lv_if_eq (tgt := 28) hx hb dX10_isThere_21 (by decide) (fun c4 => ?_) (fun c4 => ?_)
      · have hf := it_e c4 hf
        refine lv_iconst (v := 0) hx hb dX10_isThere_28 (by decide) ?_
        obtain rfl := Option.some.inj hf
        rw [← hQ]
        exact e_zR hx hb hr rfl bz0 hS hlocks dX10_isThere_29
      · have hf := ie_e c4 hf
        refine lv_iconst (v := 1) hx hb dX10_isThere_24 (by decide) ?_
        refine lv_goto (tgt := 29) hx hb dX10_isThere_25 (by decide) ?_
        obtain rfl := Option.some.inj hf
        rw [← hQ]
        exact e_zR hx hb hr rfl bz1 hS hlocks dX10_isThere_29

def f_X10_of (p0 : Int32) (p1 : Int32) (t_down : Nat → Int32) (t_min : Nat → Int32) (t_pac : Nat → Int32) (t_gone : Nat → Int32) (t_infl : Nat → Int32) (t_lik : Nat → Int32) (t_str : Nat → Int32) (t_from : Nat → Int32) (t_unt : Nat → Int32) (t_there : Int32) : Option (Int32) :=
  (f_X10_isThere p0 t_there).bind fun q1 =>
  if q1 = 0 then
    some ((-2))
  else
    if p1 = 0 then
      ri t_down 12 (p0) fun x4 =>
      some (x4)
    else if p1 = 1 then
      ri t_min 12 (p0) fun x7 =>
      some (x7)
    else if p1 = 2 then
      ri t_pac 12 (p0) fun x10 =>
      some (x10)
    else if p1 = 3 then
      ri t_gone 12 (p0) fun x13 =>
      some (x13)
    else if p1 = 4 then
      ri t_infl 12 (p0) fun x16 =>
      some (x16)
    else if p1 = 5 then
      ri t_lik 12 (p0) fun x19 =>
      some (x19)
    else if p1 = 6 then
      ri t_str 12 (p0) fun x22 =>
      some (x22)
    else if p1 = 7 then
      ri t_from 12 (p0) fun x25 =>
      some (x25)
    else if p1 = 8 then
      ri t_unt 12 (p0) fun x28 =>
      some (x28)
    else 
      some ((-3))
abbrev rmX10_of : Room := { frames := 2, cells := 0, slots := 0, locals := 42 }
set_option maxHeartbeats 4000000 in
set_option maxRecDepth 100000 in
theorem c_X10_of {l : Launch} {D : va_G} {g : Nat → ClassId} {ad : Nat → Nat} {C : Nat → va_E} {sz : Nat} {t_there : Int32} {t_lift : Int32} {t_none : Int32} {t_down : Nat → Int32} {t_min : Nat → Int32} {t_pac : Nat → Int32} {t_gone : Nat → Int32} {t_infl : Nat → Int32} {t_lik : Nat → Int32} {t_str : Nat → Int32} {t_from : Nat → Int32} {t_unt : Nat → Int32} {p0 : Int32} {p1 : Int32} {rr : Int32} (h0 : C 0 = .inr (10, [.ref (ad 1), .ref (ad 5), .ref (ad 19), .ref (ad 21), .ref (ad 60), .ref (ad 77), .ref (ad 81), .ref (ad 84), .ref (ad 85)])) (h5 : C 5 = .inr (7, [.ref (ad 6), .ref (ad 7), .ref (ad 8), .ref (ad 9), .ref (ad 10), .ref (ad 11), .ref (ad 12), .ref (ad 13), .ref (ad 14), .ref (ad 15), .ref (ad 16), .ref (ad 17), .ref (ad 18), .int t_there, .int t_lift, .int t_none])) (h6 : C 6 = aI g 12 t_down) (h7 : C 7 = aI g 12 t_min) (h8 : C 8 = aI g 12 t_pac) (h9 : C 9 = aI g 12 t_gone) (h10 : C 10 = aI g 12 t_infl) (h11 : C 11 = aI g 12 t_lik) (h12 : C 12 = aI g 12 t_str) (h13 : C 13 = aI g 12 t_from) (h14 : C 14 = aI g 12 t_unt) (hf : f_X10_of p0 p1 t_down t_min t_pac t_gone t_infl t_lik t_str t_from t_unt t_there = some rr) : Met l yX10_of wsX10_of rmX10_of (PcW D g 109 ad C sz [.ref (ad 0), .int p0, .int p1]) (QiR sz tP rr) 0 0 (An sz) := by
  refine Met.ofW (cc := cX10_of) (maxL := 3) (ret := (some .int)) (by decide) rfl ?_
  intro p e s m args below meth c s₁ B hml hv
  obtain ⟨hav, hsz, hK, hP⟩ := hv
  subst hsz
  have hx := B.exec
  have hb := B.bytes
  have hr := B.returns
  have hts := atoms_spec (ws := wsX10_of) B.pre
  have hown : s.vm.findClass RX10 = some m.cls := findClass_of_methodNamed B.named
  have hlocks := B.notSynchronized
  generalize hQ : MQ below (QiR s.heap.size tP rr) args s 0 0 (An s.heap.size) = QQ
  have hS : va_S (An s.heap.size) s.heap s.heap [] := va_S.rf
  have hA : ∀ q, s.heap.size ≤ q → (An s.heap.size) q := fun q h => h
  have k0 := hts (.fieldLink RX10 19 "UpDrain" "plan" "LUpDrain$Town;") (List.mem_of_getElem? (i := 1) rfl)
  have nX10 : ∀ w ∈ u_ws RX10 TX10 9, w ∈ wsX10_of := fun _ h => List.mem_cons_of_mem _ (List.mem_append_left _ (List.mem_append_right _ h))
  have k2 := nf_6 (A := args) hK
  have nX7 : ∀ w ∈ u_ws RX7 TX7 16, w ∈ wsX10_of := fun _ h => List.mem_cons_of_mem _ (List.mem_append_right _ h)
  have k4 := nf_9 (A := args) hK
  have k5 := nf_11 (A := args) hK
  have k6 := nf_14 (A := args) hK
  have k7 := nf_16 (A := args) hK
  have k8 := nf_20 (A := args) hK
  have k9 := nf_22 (A := args) hK
  have k10 := nf_24 (A := args) hK
  have k11 := nf_26 (A := args) hK
  have hE := lg_entry_eq m [.ref (ad 0), .int p0, .int p1] 3
  rw [← hav] at hE
  rw [hE]
  have hl := lv_entry [.ref (ad 0), .int p0, .int p1] (n := 3) (Nat.le_of_ble_eq_true rfl)
  generalize (lg_sl [.ref (ad 0), .int p0, .int p1] ++ List.replicate (3 - (lg_sl [.ref (ad 0), .int p0, .int p1]).length) Slot.unset).toArray = ls at hl ⊢
  have hl : lv_has ls 3 [(0, .ref (ad 0)), (1, .int p0), (2, .int p1)] := hl
  clear hE
  unfold f_X10_of at hf
  suffices hgo : ∀ (H : Heap) (locs : List Loc), va_P D vwCl (wd 109 ad C) H → va_S (An s.heap.size) s.heap H locs → W p l e (headSpec wsX10_of rmX10_of).room s m args below meth c H locs 0 0 QQ (F0 m 0 ls []) from hgo s.heap [] hP hS
  clear hS hP
  intro H locs hP hS
  refine lv_aload_n hx hb dX10_of_0 rfl (lv_at hl 0 rfl) ?_
  refine lv_iload_n hx hb dX10_of_1 rfl (lv_at hl 1 rfl) ?_
  obtain ⟨q1, hq1, hf⟩ := bd_e hf
  refine k_iR (va_runV (C := RX10) (As := [.int p0]) (rest := []) ⟨hx, hb, hml, hown, hts⟩ (c_X10_isThere (l := l) (sz := H.size) (p0 := p0) h0 h5 hq1) (cwV 1 hts gX10_of_X10_isThere rfl rfl rfl (by decide +kernel) ⟨Nat.le_of_ble_eq_true rfl, Nat.le_of_ble_eq_true rfl⟩) (preV_of hK hP (by decide) h0 rfl) rfl rfl hl.1 rfl (lv_room (Nat.le_of_ble_eq_true rfl)) dX10_of_2 ⟨Nat.le_refl _, Nat.le_refl _⟩) hA hP hS (fun H locs hP hS hbz_q1 => ?_)
  refine lv_if_ne (tgt := 11) hx hb dX10_of_5 (by decide) (fun c2 => ?_) (fun c2 => ?_)
  · have hf := ie_e c2 hf
    refine lv_iload_n hx hb dX10_of_11 rfl (lv_at hl 2 rfl) ?_
    by_cases c3 : p1 = 0
    · have hf := it_e c3 hf
      refine lv_tableIn (tgt := 64) hx hb dX10_of_12 (by rw [c3]; decide) (by rw [c3]; decide) (by rw [c3]; rfl) (by decide) ?_
      refine lv_aload_n hx hb dX10_of_64 rfl (lv_at hl 0 rfl) ?_
      refine r_get (own := RX10) (T := TX10) (n := 9) (ci := 10) (v := .ref (ad 5)) hx hb hts nX10 hown hK hP (by decide) h0 rfl 1 (by decide) k0 rfl dX10_of_65 ?_
      refine r_getN (own := RX10) (T := TX7) (n := 16) (ci := 7) (v := .ref (ad 6)) hx hb hts nX7 hown hK hP (by decide) h5 rfl 0 (by decide) k2 rfl dX10_of_68 ?_
      refine lv_iload_n hx hb dX10_of_71 rfl (lv_at hl 1 rfl) ?_
      obtain ⟨i5, x4, ex4, hf⟩ := ri_e hf
      refine r_iald hx hb hK hP (by decide) h6 i5 dX10_of_72 ex4 ?_
      obtain rfl := Option.some.inj hf
      rw [← hQ]
      exact e_iR hx hb hr rfl (tP_i _) hS hlocks dX10_of_73
    have hf := ie_e c3 hf
    by_cases c6 : p1 = 1
    · have hf := it_e c6 hf
      refine lv_tableIn (tgt := 74) hx hb dX10_of_12 (by rw [c6]; decide) (by rw [c6]; decide) (by rw [c6]; rfl) (by decide) ?_
      refine lv_aload_n hx hb dX10_of_74 rfl (lv_at hl 0 rfl) ?_
      refine r_get (own := RX10) (T := TX10) (n := 9) (ci := 10) (v := .ref (ad 5)) hx hb hts nX10 hown hK hP (by decide) h0 rfl 1 (by decide) k0 rfl dX10_of_75 ?_
      refine r_getN (own := RX10) (T := TX7) (n := 16) (ci := 7) (v := .ref (ad 7)) hx hb hts nX7 hown hK hP (by decide) h5 rfl 1 (by decide) k4 rfl dX10_of_78 ?_
      refine lv_iload_n hx hb dX10_of_81 rfl (lv_at hl 1 rfl) ?_
      obtain ⟨i8, x7, ex7, hf⟩ := ri_e hf
      refine r_iald hx hb hK hP (by decide) h7 i8 dX10_of_82 ex7 ?_
      obtain rfl := Option.some.inj hf
      rw [← hQ]
      exact e_iR hx hb hr rfl (tP_i _) hS hlocks dX10_of_83
    have hf := ie_e c6 hf
    by_cases c9 : p1 = 2
    · have hf := it_e c9 hf
      refine lv_tableIn (tgt := 84) hx hb dX10_of_12 (by rw [c9]; decide) (by rw [c9]; decide) (by rw [c9]; rfl) (by decide) ?_
      refine lv_aload_n hx hb dX10_of_84 rfl (lv_at hl 0 rfl) ?_
      refine r_get (own := RX10) (T := TX10) (n := 9) (ci := 10) (v := .ref (ad 5)) hx hb hts nX10 hown hK hP (by decide) h0 rfl 1 (by decide) k0 rfl dX10_of_85 ?_
      refine r_getN (own := RX10) (T := TX7) (n := 16) (ci := 7) (v := .ref (ad 8)) hx hb hts nX7 hown hK hP (by decide) h5 rfl 2 (by decide) k5 rfl dX10_of_88 ?_
      refine lv_iload_n hx hb dX10_of_91 rfl (lv_at hl 1 rfl) ?_
      obtain ⟨i11, x10, ex10, hf⟩ := ri_e hf
      refine r_iald hx hb hK hP (by decide) h8 i11 dX10_of_92 ex10 ?_
      obtain rfl := Option.some.inj hf
      rw [← hQ]
      exact e_iR hx hb hr rfl (tP_i _) hS hlocks dX10_of_93
    have hf := ie_e c9 hf
    by_cases c12 : p1 = 3
    · have hf := it_e c12 hf
      refine lv_tableIn (tgt := 94) hx hb dX10_of_12 (by rw [c12]; decide) (by rw [c12]; decide) (by rw [c12]; rfl) (by decide) ?_
      refine lv_aload_n hx hb dX10_of_94 rfl (lv_at hl 0 rfl) ?_
      refine r_get (own := RX10) (T := TX10) (n := 9) (ci := 10) (v := .ref (ad 5)) hx hb hts nX10 hown hK hP (by decide) h0 rfl 1 (by decide) k0 rfl dX10_of_95 ?_
      refine r_getN (own := RX10) (T := TX7) (n := 16) (ci := 7) (v := .ref (ad 9)) hx hb hts nX7 hown hK hP (by decide) h5 rfl 3 (by decide) k6 rfl dX10_of_98 ?_
      refine lv_iload_n hx hb dX10_of_101 rfl (lv_at hl 1 rfl) ?_
      obtain ⟨i14, x13, ex13, hf⟩ := ri_e hf
      refine r_iald hx hb hK hP (by decide) h9 i14 dX10_of_102 ex13 ?_
      obtain rfl := Option.some.inj hf
      rw [← hQ]
      exact e_iR hx hb hr rfl (tP_i _) hS hlocks dX10_of_103
    have hf := ie_e c12 hf
    by_cases c15 : p1 = 4
    · have hf := it_e c15 hf
      refine lv_tableIn (tgt := 104) hx hb dX10_of_12 (by rw [c15]; decide) (by rw [c15]; decide) (by rw [c15]; rfl) (by decide) ?_
      refine lv_aload_n hx hb dX10_of_104 rfl (lv_at hl 0 rfl) ?_
      refine r_get (own := RX10) (T := TX10) (n := 9) (ci := 10) (v := .ref (ad 5)) hx hb hts nX10 hown hK hP (by decide) h0 rfl 1 (by decide) k0 rfl dX10_of_105 ?_
      refine r_getN (own := RX10) (T := TX7) (n := 16) (ci := 7) (v := .ref (ad 10)) hx hb hts nX7 hown hK hP (by decide) h5 rfl 4 (by decide) k7 rfl dX10_of_108 ?_
      refine lv_iload_n hx hb dX10_of_111 rfl (lv_at hl 1 rfl) ?_
      obtain ⟨i17, x16, ex16, hf⟩ := ri_e hf
      refine r_iald hx hb hK hP (by decide) h10 i17 dX10_of_112 ex16 ?_
      obtain rfl := Option.some.inj hf
      rw [← hQ]
      exact e_iR hx hb hr rfl (tP_i _) hS hlocks dX10_of_113
    have hf := ie_e c15 hf
    by_cases c18 : p1 = 5
    · have hf := it_e c18 hf
      refine lv_tableIn (tgt := 114) hx hb dX10_of_12 (by rw [c18]; decide) (by rw [c18]; decide) (by rw [c18]; rfl) (by decide) ?_
      refine lv_aload_n hx hb dX10_of_114 rfl (lv_at hl 0 rfl) ?_
      refine r_get (own := RX10) (T := TX10) (n := 9) (ci := 10) (v := .ref (ad 5)) hx hb hts nX10 hown hK hP (by decide) h0 rfl 1 (by decide) k0 rfl dX10_of_115 ?_
      refine r_getN (own := RX10) (T := TX7) (n := 16) (ci := 7) (v := .ref (ad 11)) hx hb hts nX7 hown hK hP (by decide) h5 rfl 5 (by decide) k8 rfl dX10_of_118 ?_
      refine lv_iload_n hx hb dX10_of_121 rfl (lv_at hl 1 rfl) ?_
      obtain ⟨i20, x19, ex19, hf⟩ := ri_e hf
      refine r_iald hx hb hK hP (by decide) h11 i20 dX10_of_122 ex19 ?_
      obtain rfl := Option.some.inj hf
      rw [← hQ]
      exact e_iR hx hb hr rfl (tP_i _) hS hlocks dX10_of_123
    have hf := ie_e c18 hf
    by_cases c21 : p1 = 6
    · have hf := it_e c21 hf
      refine lv_tableIn (tgt := 124) hx hb dX10_of_12 (by rw [c21]; decide) (by rw [c21]; decide) (by rw [c21]; rfl) (by decide) ?_
      refine lv_aload_n hx hb dX10_of_124 rfl (lv_at hl 0 rfl) ?_
      refine r_get (own := RX10) (T := TX10) (n := 9) (ci := 10) (v := .ref (ad 5)) hx hb hts nX10 hown hK hP (by decide) h0 rfl 1 (by decide) k0 rfl dX10_of_125 ?_
      refine r_getN (own := RX10) (T := TX7) (n := 16) (ci := 7) (v := .ref (ad 12)) hx hb hts nX7 hown hK hP (by decide) h5 rfl 6 (by decide) k9 rfl dX10_of_128 ?_
      refine lv_iload_n hx hb dX10_of_131 rfl (lv_at hl 1 rfl) ?_
      obtain ⟨i23, x22, ex22, hf⟩ := ri_e hf
      refine r_iald hx hb hK hP (by decide) h12 i23 dX10_of_132 ex22 ?_
      obtain rfl := Option.some.inj hf
      rw [← hQ]
      exact e_iR hx hb hr rfl (tP_i _) hS hlocks dX10_of_133
    have hf := ie_e c21 hf
    by_cases c24 : p1 = 7
    · have hf := it_e c24 hf
      refine lv_tableIn (tgt := 134) hx hb dX10_of_12 (by rw [c24]; decide) (by rw [c24]; decide) (by rw [c24]; rfl) (by decide) ?_
      refine lv_aload_n hx hb dX10_of_134 rfl (lv_at hl 0 rfl) ?_
      refine r_get (own := RX10) (T := TX10) (n := 9) (ci := 10) (v := .ref (ad 5)) hx hb hts nX10 hown hK hP (by decide) h0 rfl 1 (by decide) k0 rfl dX10_of_135 ?_
      refine r_getN (own := RX10) (T := TX7) (n := 16) (ci := 7) (v := .ref (ad 13)) hx hb hts nX7 hown hK hP (by decide) h5 rfl 7 (by decide) k10 rfl dX10_of_138 ?_
      refine lv_iload_n hx hb dX10_of_141 rfl (lv_at hl 1 rfl) ?_
      obtain ⟨i26, x25, ex25, hf⟩ := ri_e hf
      refine r_iald hx hb hK hP (by decide) h13 i26 dX10_of_142 ex25 ?_
      obtain rfl := Option.some.inj hf
      rw [← hQ]
      exact e_iR hx hb hr rfl (tP_i _) hS hlocks dX10_of_143
    have hf := ie_e c24 hf
    by_cases c27 : p1 = 8
    · have hf := it_e c27 hf
      refine lv_tableIn (tgt := 144) hx hb dX10_of_12 (by rw [c27]; decide) (by rw [c27]; decide) (by rw [c27]; rfl) (by decide) ?_
      refine lv_aload_n hx hb dX10_of_144 rfl (lv_at hl 0 rfl) ?_
      refine r_get (own := RX10) (T := TX10) (n := 9) (ci := 10) (v := .ref (ad 5)) hx hb hts nX10 hown hK hP (by decide) h0 rfl 1 (by decide) k0 rfl dX10_of_145 ?_
      refine r_getN (own := RX10) (T := TX7) (n := 16) (ci := 7) (v := .ref (ad 14)) hx hb hts nX7 hown hK hP (by decide) h5 rfl 8 (by decide) k11 rfl dX10_of_148 ?_
      refine lv_iload_n hx hb dX10_of_151 rfl (lv_at hl 1 rfl) ?_
      obtain ⟨i29, x28, ex28, hf⟩ := ri_e hf
      refine r_iald hx hb hK hP (by decide) h14 i29 dX10_of_152 ex28 ?_
      obtain rfl := Option.some.inj hf
      rw [← hQ]
      exact e_iR hx hb hr rfl (tP_i _) hS hlocks dX10_of_153
    have hf := ie_e c27 hf
    have hsw : Int32.toInt p1 < 0 ∨ 8 < Int32.toInt p1 := by
      have qc3 := ne_toInt c3
      rw [show Int32.toInt 0 = 0 from rfl] at qc3
      have qc6 := ne_toInt c6
      rw [show Int32.toInt 1 = 1 from rfl] at qc6
      have qc9 := ne_toInt c9
      rw [show Int32.toInt 2 = 2 from rfl] at qc9
      have qc12 := ne_toInt c12
      rw [show Int32.toInt 3 = 3 from rfl] at qc12
      have qc15 := ne_toInt c15
      rw [show Int32.toInt 4 = 4 from rfl] at qc15
      have qc18 := ne_toInt c18
      rw [show Int32.toInt 5 = 5 from rfl] at qc18
      have qc21 := ne_toInt c21
      rw [show Int32.toInt 6 = 6 from rfl] at qc21
      have qc24 := ne_toInt c24
      rw [show Int32.toInt 7 = 7 from rfl] at qc24
      have qc27 := ne_toInt c27
      rw [show Int32.toInt 8 = 8 from rfl] at qc27
      omega
    refine lv_tableOut (tgt := 154) hx hb dX10_of_12 hsw (by decide) ?_
    refine lv_bipush (v := (-3)) hx hb dX10_of_154 (by decide) ?_
    obtain rfl := Option.some.inj hf
    rw [← hQ]
    exact e_iR hx hb hr rfl (tP_i _) hS hlocks dX10_of_156
  · have hf := it_e c2 hf
    refine lv_bipush (v := (-2)) hx hb dX10_of_8 (by decide) ?_
    obtain rfl := Option.some.inj hf
    rw [← hQ]
    exact e_iR hx hb hr rfl (tP_i _) hS hlocks dX10_of_10

def f_X10_isCup (p0 : Int32) : Option (Int32) :=
  if p0 < 0 then
    some (0)
  else
    if 4 ≤ p0 then
      some (0)
    else
      some (1)
abbrev rmX10_isCup : Room := { frames := 0, cells := 0, slots := 0, locals := 0 }
set_option maxHeartbeats 4000000 in
set_option maxRecDepth 100000 in
theorem c_X10_isCup {l : Launch} {sz : Nat}  {p0 : Int32} {rr : Int32} (hf : f_X10_isCup p0 = some rr) : Met l yX10_isCup wsX10_isCup rmX10_isCup (PcS sz [.int p0]) (QiR sz bz rr) 0 0 (An sz) := by
  refine Met.ofW (cc := cX10_isCup) (maxL := 1) (ret := (some .boolean)) (by decide) rfl ?_
  intro p e s m args below meth c s₁ B hml hv
  obtain ⟨hav, hsz⟩ := hv
  subst hsz
  have hx := B.exec
  have hb := B.bytes
  have hr := B.returns
  have hts := atoms_spec (ws := wsX10_isCup) B.pre
  have hown : s.vm.findClass RX10 = some m.cls := findClass_of_methodNamed B.named
  have hlocks := B.notSynchronized
  generalize hQ : MQ below (QiR s.heap.size bz rr) args s 0 0 (An s.heap.size) = QQ
  have hS : va_S (An s.heap.size) s.heap s.heap [] := va_S.rf
  have hA : ∀ q, s.heap.size ≤ q → (An s.heap.size) q := fun q h => h
  have hE := lg_entry_eq m [.int p0] 1
  rw [← hav] at hE
  rw [hE]
  have hl := lv_entry [.int p0] (n := 1) (Nat.le_of_ble_eq_true rfl)
  generalize (lg_sl [.int p0] ++ List.replicate (1 - (lg_sl [.int p0]).length) Slot.unset).toArray = ls at hl ⊢
  have hl : lv_has ls 1 [(0, .int p0)] := hl
  clear hE
  unfold f_X10_isCup at hf
  suffices hgo : ∀ (H : Heap) (locs : List Loc), va_S (An s.heap.size) s.heap H locs → W p l e (headSpec wsX10_isCup rmX10_isCup).room s m args below meth c H locs 0 0 QQ (F0 m 0 ls []) from hgo s.heap [] hS
  clear hS
  intro H locs hS
  refine lv_iload_n hx hb dX10_isCup_0 rfl (lv_at hl 0 rfl) ?_
  refine lv_if_lt (tgt := 13) hx hb dX10_isCup_1 (by decide) (fun c1 => ?_) (fun c1 => ?_)
  · have hf := it_e c1 hf
    refine lv_iconst (v := 0) hx hb dX10_isCup_13 (by decide) ?_
    obtain rfl := Option.some.inj hf
    rw [← hQ]
    exact e_zR hx hb hr rfl bz0 hS hlocks dX10_isCup_14
  · have hf := ie_e c1 hf
    refine lv_iload_n hx hb dX10_isCup_4 rfl (lv_at hl 0 rfl) ?_
    refine lv_iconst (v := 4) hx hb dX10_isCup_5 (by decide) ?_
    refine lv_icmp_ge (tgt := 13) hx hb dX10_isCup_6 (by decide) (fun c2 => ?_) (fun c2 => ?_)
    · have hf := it_e c2 hf
      refine lv_iconst (v := 0) hx hb dX10_isCup_13 (by decide) ?_
      obtain rfl := Option.some.inj hf
      rw [← hQ]
      exact e_zR hx hb hr rfl bz0 hS hlocks dX10_isCup_14
    · have hf := ie_e c2 hf
      refine lv_iconst (v := 1) hx hb dX10_isCup_9 (by decide) ?_
      refine lv_goto (tgt := 14) hx hb dX10_isCup_10 (by decide) ?_
      obtain rfl := Option.some.inj hf
      rw [← hQ]
      exact e_zR hx hb hr rfl bz1 hS hlocks dX10_isCup_14

def f_X10_cup (p0 : Int32) (p1 : Int32) (t_tell : Nat → Int32) (t_wy : Nat → Int32) (t_wn : Nat → Int32) : Option (Int32) :=
  (f_X10_isCup p0).bind fun q1 =>
  if q1 = 0 then
    some ((-2))
  else
    if p1 = 0 then
      ri t_tell 4 (p0) fun x4 =>
      some (x4)
    else if p1 = 1 then
      ri t_wy 4 (p0) fun x7 =>
      some (x7)
    else if p1 = 2 then
      ri t_wn 4 (p0) fun x10 =>
      some (x10)
    else 
      some ((-3))
abbrev rmX10_cup : Room := { frames := 1, cells := 0, slots := 0, locals := 20 }
set_option maxHeartbeats 4000000 in
set_option maxRecDepth 100000 in
theorem c_X10_cup {l : Launch} {D : va_G} {g : Nat → ClassId} {ad : Nat → Nat} {C : Nat → va_E} {sz : Nat} {t_there : Int32} {t_lift : Int32} {t_none : Int32} {t_tell : Nat → Int32} {t_wy : Nat → Int32} {t_wn : Nat → Int32} {p0 : Int32} {p1 : Int32} {rr : Int32} (h0 : C 0 = .inr (10, [.ref (ad 1), .ref (ad 5), .ref (ad 19), .ref (ad 21), .ref (ad 60), .ref (ad 77), .ref (ad 81), .ref (ad 84), .ref (ad 85)])) (h5 : C 5 = .inr (7, [.ref (ad 6), .ref (ad 7), .ref (ad 8), .ref (ad 9), .ref (ad 10), .ref (ad 11), .ref (ad 12), .ref (ad 13), .ref (ad 14), .ref (ad 15), .ref (ad 16), .ref (ad 17), .ref (ad 18), .int t_there, .int t_lift, .int t_none])) (h16 : C 16 = aI g 4 t_tell) (h17 : C 17 = aI g 4 t_wy) (h18 : C 18 = aI g 4 t_wn) (hf : f_X10_cup p0 p1 t_tell t_wy t_wn = some rr) : Met l yX10_cup wsX10_cup rmX10_cup (PcW D g 109 ad C sz [.ref (ad 0), .int p0, .int p1]) (QiR sz tP rr) 0 0 (An sz) := by
  refine Met.ofW (cc := cX10_cup) (maxL := 3) (ret := (some .int)) (by decide) rfl ?_
  intro p e s m args below meth c s₁ B hml hv
  obtain ⟨hav, hsz, hK, hP⟩ := hv
  subst hsz
  have hx := B.exec
  have hb := B.bytes
  have hr := B.returns
  have hts := atoms_spec (ws := wsX10_cup) B.pre
  have hown : s.vm.findClass RX10 = some m.cls := findClass_of_methodNamed B.named
  have hlocks := B.notSynchronized
  generalize hQ : MQ below (QiR s.heap.size tP rr) args s 0 0 (An s.heap.size) = QQ
  have hS : va_S (An s.heap.size) s.heap s.heap [] := va_S.rf
  have hA : ∀ q, s.heap.size ≤ q → (An s.heap.size) q := fun q h => h
  have k0 := hts (.fieldLink RX10 19 "UpDrain" "plan" "LUpDrain$Town;") (List.mem_of_getElem? (i := 1) rfl)
  have nX10 : ∀ w ∈ u_ws RX10 TX10 9, w ∈ wsX10_cup := fun _ h => List.mem_cons_of_mem _ (List.mem_append_left _ (List.mem_append_right _ h))
  have k2 := nf_29 (A := args) hK
  have nX7 : ∀ w ∈ u_ws RX7 TX7 16, w ∈ wsX10_cup := fun _ h => List.mem_cons_of_mem _ (List.mem_append_right _ h)
  have k4 := nf_31 (A := args) hK
  have k5 := nf_34 (A := args) hK
  have hE := lg_entry_eq m [.ref (ad 0), .int p0, .int p1] 3
  rw [← hav] at hE
  rw [hE]
  have hl := lv_entry [.ref (ad 0), .int p0, .int p1] (n := 3) (Nat.le_of_ble_eq_true rfl)
  generalize (lg_sl [.ref (ad 0), .int p0, .int p1] ++ List.replicate (3 - (lg_sl [.ref (ad 0), .int p0, .int p1]).length) Slot.unset).toArray = ls at hl ⊢
  have hl : lv_has ls 3 [(0, .ref (ad 0)), (1, .int p0), (2, .int p1)] := hl
  clear hE
  unfold f_X10_cup at hf
  suffices hgo : ∀ (H : Heap) (locs : List Loc), va_P D vwCl (wd 109 ad C) H → va_S (An s.heap.size) s.heap H locs → W p l e (headSpec wsX10_cup rmX10_cup).room s m args below meth c H locs 0 0 QQ (F0 m 0 ls []) from hgo s.heap [] hP hS
  clear hS hP
  intro H locs hP hS
  refine lv_iload_n hx hb dX10_cup_0 rfl (lv_at hl 1 rfl) ?_
  obtain ⟨q1, hq1, hf⟩ := bd_e hf
  refine k_iR (va_runS (As := [.int p0]) (rest := []) ⟨hx, hb, hml, hown, hts⟩ (c_X10_isCup (l := l) (sz := H.size) (p0 := p0) hq1) (va_cwS 1 hts gX10_cup_X10_isCup rfl rfl rfl (by decide +kernel) ⟨Nat.le_of_ble_eq_true rfl, Nat.le_of_ble_eq_true rfl⟩) preS0 rfl rfl hl.1 rfl (lv_room (Nat.le_of_ble_eq_true rfl)) dX10_cup_1 ⟨Nat.le_refl _, Nat.le_refl _⟩) hA hP hS (fun H locs hP hS hbz_q1 => ?_)
  refine lv_if_ne (tgt := 10) hx hb dX10_cup_4 (by decide) (fun c2 => ?_) (fun c2 => ?_)
  · have hf := ie_e c2 hf
    refine lv_iload_n hx hb dX10_cup_10 rfl (lv_at hl 2 rfl) ?_
    by_cases c3 : p1 = 0
    · have hf := it_e c3 hf
      refine lv_tableIn (tgt := 36) hx hb dX10_cup_11 (by rw [c3]; decide) (by rw [c3]; decide) (by rw [c3]; rfl) (by decide) ?_
      refine lv_aload_n hx hb dX10_cup_36 rfl (lv_at hl 0 rfl) ?_
      refine r_get (own := RX10) (T := TX10) (n := 9) (ci := 10) (v := .ref (ad 5)) hx hb hts nX10 hown hK hP (by decide) h0 rfl 1 (by decide) k0 rfl dX10_cup_37 ?_
      refine r_getN (own := RX10) (T := TX7) (n := 16) (ci := 7) (v := .ref (ad 16)) hx hb hts nX7 hown hK hP (by decide) h5 rfl 10 (by decide) k2 rfl dX10_cup_40 ?_
      refine lv_iload_n hx hb dX10_cup_43 rfl (lv_at hl 1 rfl) ?_
      obtain ⟨i5, x4, ex4, hf⟩ := ri_e hf
      refine r_iald hx hb hK hP (by decide) h16 i5 dX10_cup_44 ex4 ?_
      obtain rfl := Option.some.inj hf
      rw [← hQ]
      exact e_iR hx hb hr rfl (tP_i _) hS hlocks dX10_cup_45
    have hf := ie_e c3 hf
    by_cases c6 : p1 = 1
    · have hf := it_e c6 hf
      refine lv_tableIn (tgt := 46) hx hb dX10_cup_11 (by rw [c6]; decide) (by rw [c6]; decide) (by rw [c6]; rfl) (by decide) ?_
      refine lv_aload_n hx hb dX10_cup_46 rfl (lv_at hl 0 rfl) ?_
      refine r_get (own := RX10) (T := TX10) (n := 9) (ci := 10) (v := .ref (ad 5)) hx hb hts nX10 hown hK hP (by decide) h0 rfl 1 (by decide) k0 rfl dX10_cup_47 ?_
      refine r_getN (own := RX10) (T := TX7) (n := 16) (ci := 7) (v := .ref (ad 17)) hx hb hts nX7 hown hK hP (by decide) h5 rfl 11 (by decide) k4 rfl dX10_cup_50 ?_
      refine lv_iload_n hx hb dX10_cup_53 rfl (lv_at hl 1 rfl) ?_
      obtain ⟨i8, x7, ex7, hf⟩ := ri_e hf
      refine r_iald hx hb hK hP (by decide) h17 i8 dX10_cup_54 ex7 ?_
      obtain rfl := Option.some.inj hf
      rw [← hQ]
      exact e_iR hx hb hr rfl (tP_i _) hS hlocks dX10_cup_55
    have hf := ie_e c6 hf
    by_cases c9 : p1 = 2
    · have hf := it_e c9 hf
      refine lv_tableIn (tgt := 56) hx hb dX10_cup_11 (by rw [c9]; decide) (by rw [c9]; decide) (by rw [c9]; rfl) (by decide) ?_
      refine lv_aload_n hx hb dX10_cup_56 rfl (lv_at hl 0 rfl) ?_
      refine r_get (own := RX10) (T := TX10) (n := 9) (ci := 10) (v := .ref (ad 5)) hx hb hts nX10 hown hK hP (by decide) h0 rfl 1 (by decide) k0 rfl dX10_cup_57 ?_
      refine r_getN (own := RX10) (T := TX7) (n := 16) (ci := 7) (v := .ref (ad 18)) hx hb hts nX7 hown hK hP (by decide) h5 rfl 12 (by decide) k5 rfl dX10_cup_60 ?_
      refine lv_iload_n hx hb dX10_cup_63 rfl (lv_at hl 1 rfl) ?_
      obtain ⟨i11, x10, ex10, hf⟩ := ri_e hf
      refine r_iald hx hb hK hP (by decide) h18 i11 dX10_cup_64 ex10 ?_
      obtain rfl := Option.some.inj hf
      rw [← hQ]
      exact e_iR hx hb hr rfl (tP_i _) hS hlocks dX10_cup_65
    have hf := ie_e c9 hf
    have hsw : Int32.toInt p1 < 0 ∨ 2 < Int32.toInt p1 := by
      have qc3 := ne_toInt c3
      rw [show Int32.toInt 0 = 0 from rfl] at qc3
      have qc6 := ne_toInt c6
      rw [show Int32.toInt 1 = 1 from rfl] at qc6
      have qc9 := ne_toInt c9
      rw [show Int32.toInt 2 = 2 from rfl] at qc9
      omega
    refine lv_tableOut (tgt := 66) hx hb dX10_cup_11 hsw (by decide) ?_
    refine lv_bipush (v := (-3)) hx hb dX10_cup_66 (by decide) ?_
    obtain rfl := Option.some.inj hf
    rw [← hQ]
    exact e_iR hx hb hr rfl (tP_i _) hS hlocks dX10_cup_68
  · have hf := it_e c2 hf
    refine lv_bipush (v := (-2)) hx hb dX10_cup_7 (by decide) ?_
    obtain rfl := Option.some.inj hf
    rw [← hQ]
    exact e_iR hx hb hr rfl (tP_i _) hS hlocks dX10_cup_9

def f_X10_above (p0 : Int32) (t_there : Int32) (w_over : Nat → Int32) : Option (Int32) :=
  (f_X10_isThere p0 t_there).bind fun q1 =>
  if q1 = 0 then
    some ((-2))
  else
    ri w_over 12 (p0) fun x3 =>
    some (x3)
abbrev rmX10_above : Room := { frames := 2, cells := 0, slots := 0, locals := 42 }
set_option maxHeartbeats 4000000 in
set_option maxRecDepth 100000 in
theorem c_X10_above {l : Launch} {D : va_G} {g : Nat → ClassId} {ad : Nat → Nat} {C : Nat → va_E} {sz : Nat} {t_there : Int32} {t_lift : Int32} {t_none : Int32} {w_src : Int32} {w_over : Nat → Int32} {p0 : Int32} {rr : Int32} (h0 : C 0 = .inr (10, [.ref (ad 1), .ref (ad 5), .ref (ad 19), .ref (ad 21), .ref (ad 60), .ref (ad 77), .ref (ad 81), .ref (ad 84), .ref (ad 85)])) (h5 : C 5 = .inr (7, [.ref (ad 6), .ref (ad 7), .ref (ad 8), .ref (ad 9), .ref (ad 10), .ref (ad 11), .ref (ad 12), .ref (ad 13), .ref (ad 14), .ref (ad 15), .ref (ad 16), .ref (ad 17), .ref (ad 18), .int t_there, .int t_lift, .int t_none])) (h19 : C 19 = .inr (9, [.ref (ad 5), .ref (ad 20), .int w_src])) (h20 : C 20 = aI g 12 w_over) (hf : f_X10_above p0 t_there w_over = some rr) : Met l yX10_above wsX10_above rmX10_above (PcW D g 109 ad C sz [.ref (ad 0), .int p0]) (QiR sz tP rr) 0 0 (An sz) := by
  refine Met.ofW (cc := cX10_above) (maxL := 2) (ret := (some .int)) (by decide) rfl ?_
  intro p e s m args below meth c s₁ B hml hv
  obtain ⟨hav, hsz, hK, hP⟩ := hv
  subst hsz
  have hx := B.exec
  have hb := B.bytes
  have hr := B.returns
  have hts := atoms_spec (ws := wsX10_above) B.pre
  have hown : s.vm.findClass RX10 = some m.cls := findClass_of_methodNamed B.named
  have hlocks := B.notSynchronized
  generalize hQ : MQ below (QiR s.heap.size tP rr) args s 0 0 (An s.heap.size) = QQ
  have hS : va_S (An s.heap.size) s.heap s.heap [] := va_S.rf
  have hA : ∀ q, s.heap.size ≤ q → (An s.heap.size) q := fun q h => h
  have k0 := hts (.fieldLink RX10 28 "UpDrain" "ways" "LUpDrain$Ways;") (List.mem_of_getElem? (i := 1) rfl)
  have nX10 : ∀ w ∈ u_ws RX10 TX10 9, w ∈ wsX10_above := fun _ h => List.mem_cons_of_mem _ (List.mem_append_left _ (List.mem_append_left _ (List.mem_append_right _ h)))
  have k2 := nf_50 (A := args) hK
  have nX9 : ∀ w ∈ u_ws RX9 TX9 3, w ∈ wsX10_above := fun _ h => List.mem_cons_of_mem _ (List.mem_append_left _ (List.mem_append_right _ h))
  have hE := lg_entry_eq m [.ref (ad 0), .int p0] 2
  rw [← hav] at hE
  rw [hE]
  have hl := lv_entry [.ref (ad 0), .int p0] (n := 2) (Nat.le_of_ble_eq_true rfl)
  generalize (lg_sl [.ref (ad 0), .int p0] ++ List.replicate (2 - (lg_sl [.ref (ad 0), .int p0]).length) Slot.unset).toArray = ls at hl ⊢
  have hl : lv_has ls 2 [(0, .ref (ad 0)), (1, .int p0)] := hl
  clear hE
  unfold f_X10_above at hf
  suffices hgo : ∀ (H : Heap) (locs : List Loc), va_P D vwCl (wd 109 ad C) H → va_S (An s.heap.size) s.heap H locs → W p l e (headSpec wsX10_above rmX10_above).room s m args below meth c H locs 0 0 QQ (F0 m 0 ls []) from hgo s.heap [] hP hS
  clear hS hP
  intro H locs hP hS
  refine lv_aload_n hx hb dX10_above_0 rfl (lv_at hl 0 rfl) ?_
  refine lv_iload_n hx hb dX10_above_1 rfl (lv_at hl 1 rfl) ?_
  obtain ⟨q1, hq1, hf⟩ := bd_e hf
  refine k_iR (va_runV (C := RX10) (As := [.int p0]) (rest := []) ⟨hx, hb, hml, hown, hts⟩ (c_X10_isThere (l := l) (sz := H.size) (p0 := p0) h0 h5 hq1) (cwV 1 hts gX10_above_X10_isThere rfl rfl rfl (by decide +kernel) ⟨Nat.le_of_ble_eq_true rfl, Nat.le_of_ble_eq_true rfl⟩) (preV_of hK hP (by decide) h0 rfl) rfl rfl hl.1 rfl (lv_room (Nat.le_of_ble_eq_true rfl)) dX10_above_2 ⟨Nat.le_refl _, Nat.le_refl _⟩) hA hP hS (fun H locs hP hS hbz_q1 => ?_)
  refine lv_if_eq (tgt := 20) hx hb dX10_above_5 (by decide) (fun c2 => ?_) (fun c2 => ?_)
  · have hf := it_e c2 hf
    refine lv_bipush (v := (-2)) hx hb dX10_above_20 (by decide) ?_
    obtain rfl := Option.some.inj hf
    rw [← hQ]
    exact e_iR hx hb hr rfl (tP_i _) hS hlocks dX10_above_22
  · have hf := ie_e c2 hf
    refine lv_aload_n hx hb dX10_above_8 rfl (lv_at hl 0 rfl) ?_
    refine r_get (own := RX10) (T := TX10) (n := 9) (ci := 10) (v := .ref (ad 19)) hx hb hts nX10 hown hK hP (by decide) h0 rfl 2 (by decide) k0 rfl dX10_above_9 ?_
    refine r_getN (own := RX10) (T := TX9) (n := 3) (ci := 9) (v := .ref (ad 20)) hx hb hts nX9 hown hK hP (by decide) h19 rfl 1 (by decide) k2 rfl dX10_above_12 ?_
    refine lv_iload_n hx hb dX10_above_15 rfl (lv_at hl 1 rfl) ?_
    obtain ⟨i4, x3, ex3, hf⟩ := ri_e hf
    refine r_iald hx hb hK hP (by decide) h20 i4 dX10_above_16 ex3 ?_
    refine lv_goto (tgt := 22) hx hb dX10_above_17 (by decide) ?_
    obtain rfl := Option.some.inj hf
    rw [← hQ]
    exact e_iR hx hb hr rfl (tP_i _) hS hlocks dX10_above_22

def f_X10_walk (p0 : Int32) (p1 : Int32) (t_down : Nat → Int32) (t_pac : Nat → Int32) (t_there : Int32) : Option (Int32) :=
  (f_X10_isThere p0 t_there).bind fun q1 =>
  if q1 = 0 then
    some ((-2))
  else
    (f_X10_isThere p1 t_there).bind fun q3 =>
    if q3 = 0 then
      some ((-2))
    else
      (f_X9_minutesBetween p0 p1 t_down t_pac).bind fun q5 =>
      some (q5)
abbrev rmX10_walk : Room := { frames := 2, cells := 0, slots := 0, locals := 42 }
set_option maxHeartbeats 4000000 in
set_option maxRecDepth 100000 in
theorem c_X10_walk {l : Launch} {D : va_G} {g : Nat → ClassId} {ad : Nat → Nat} {C : Nat → va_E} {sz : Nat} {t_there : Int32} {t_lift : Int32} {t_none : Int32} {t_down : Nat → Int32} {t_pac : Nat → Int32} {w_src : Int32} {p0 : Int32} {p1 : Int32} {rr : Int32} (h0 : C 0 = .inr (10, [.ref (ad 1), .ref (ad 5), .ref (ad 19), .ref (ad 21), .ref (ad 60), .ref (ad 77), .ref (ad 81), .ref (ad 84), .ref (ad 85)])) (h5 : C 5 = .inr (7, [.ref (ad 6), .ref (ad 7), .ref (ad 8), .ref (ad 9), .ref (ad 10), .ref (ad 11), .ref (ad 12), .ref (ad 13), .ref (ad 14), .ref (ad 15), .ref (ad 16), .ref (ad 17), .ref (ad 18), .int t_there, .int t_lift, .int t_none])) (h6 : C 6 = aI g 12 t_down) (h8 : C 8 = aI g 12 t_pac) (h19 : C 19 = .inr (9, [.ref (ad 5), .ref (ad 20), .int w_src])) (hf : f_X10_walk p0 p1 t_down t_pac t_there = some rr) : Met l yX10_walk wsX10_walk rmX10_walk (PcW D g 109 ad C sz [.ref (ad 0), .int p0, .int p1]) (QiR sz tP rr) 0 0 (An sz) := by
  refine Met.ofW (cc := cX10_walk) (maxL := 3) (ret := (some .int)) (by decide) rfl ?_
  intro p e s m args below meth c s₁ B hml hv
  obtain ⟨hav, hsz, hK, hP⟩ := hv
  subst hsz
  have hx := B.exec
  have hb := B.bytes
  have hr := B.returns
  have hts := atoms_spec (ws := wsX10_walk) B.pre
  have hown : s.vm.findClass RX10 = some m.cls := findClass_of_methodNamed B.named
  have hlocks := B.notSynchronized
  generalize hQ : MQ below (QiR s.heap.size tP rr) args s 0 0 (An s.heap.size) = QQ
  have hS : va_S (An s.heap.size) s.heap s.heap [] := va_S.rf
  have hA : ∀ q, s.heap.size ≤ q → (An s.heap.size) q := fun q h => h
  have k0 := hts (.fieldLink RX10 28 "UpDrain" "ways" "LUpDrain$Ways;") (List.mem_of_getElem? (i := 1) rfl)
  have nX10 : ∀ w ∈ u_ws RX10 TX10 9, w ∈ wsX10_walk := fun _ h => List.mem_cons_of_mem _ (List.mem_append_left _ (List.mem_append_left _ (List.mem_append_right _ h)))
  have hE := lg_entry_eq m [.ref (ad 0), .int p0, .int p1] 3
  rw [← hav] at hE
  rw [hE]
  have hl := lv_entry [.ref (ad 0), .int p0, .int p1] (n := 3) (Nat.le_of_ble_eq_true rfl)
  generalize (lg_sl [.ref (ad 0), .int p0, .int p1] ++ List.replicate (3 - (lg_sl [.ref (ad 0), .int p0, .int p1]).length) Slot.unset).toArray = ls at hl ⊢
  have hl : lv_has ls 3 [(0, .ref (ad 0)), (1, .int p0), (2, .int p1)] := hl
  clear hE
  unfold f_X10_walk at hf
  suffices hgo : ∀ (H : Heap) (locs : List Loc), va_P D vwCl (wd 109 ad C) H → va_S (An s.heap.size) s.heap H locs → W p l e (headSpec wsX10_walk rmX10_walk).room s m args below meth c H locs 0 0 QQ (F0 m 0 ls []) from hgo s.heap [] hP hS
  clear hS hP
  intro H locs hP hS
  refine lv_aload_n hx hb dX10_walk_0 rfl (lv_at hl 0 rfl) ?_
  refine lv_iload_n hx hb dX10_walk_1 rfl (lv_at hl 1 rfl) ?_
  obtain ⟨q1, hq1, hf⟩ := bd_e hf
  refine k_iR (va_runV (C := RX10) (As := [.int p0]) (rest := []) ⟨hx, hb, hml, hown, hts⟩ (c_X10_isThere (l := l) (sz := H.size) (p0 := p0) h0 h5 hq1) (cwV 1 hts gX10_walk_X10_isThere rfl rfl rfl (by decide +kernel) ⟨Nat.le_of_ble_eq_true rfl, Nat.le_of_ble_eq_true rfl⟩) (preV_of hK hP (by decide) h0 rfl) rfl rfl hl.1 rfl (lv_room (Nat.le_of_ble_eq_true rfl)) dX10_walk_2 ⟨Nat.le_refl _, Nat.le_refl _⟩) hA hP hS (fun H locs hP hS hbz_q1 => ?_)
  refine lv_if_eq (tgt := 28) hx hb dX10_walk_5 (by decide) (fun c2 => ?_) (fun c2 => ?_)
  · have hf := it_e c2 hf
    refine lv_bipush (v := (-2)) hx hb dX10_walk_28 (by decide) ?_
    obtain rfl := Option.some.inj hf
    rw [← hQ]
    exact e_iR hx hb hr rfl (tP_i _) hS hlocks dX10_walk_30
  · have hf := ie_e c2 hf
    refine lv_aload_n hx hb dX10_walk_8 rfl (lv_at hl 0 rfl) ?_
    refine lv_iload_n hx hb dX10_walk_9 rfl (lv_at hl 2 rfl) ?_
    obtain ⟨q3, hq3, hf⟩ := bd_e hf
    refine k_iR (va_runV (C := RX10) (As := [.int p1]) (rest := []) ⟨hx, hb, hml, hown, hts⟩ (c_X10_isThere (l := l) (sz := H.size) (p0 := p1) h0 h5 hq3) (cwV 1 hts gX10_walk_X10_isThere rfl rfl rfl (by decide +kernel) ⟨Nat.le_of_ble_eq_true rfl, Nat.le_of_ble_eq_true rfl⟩) (preV_of hK hP (by decide) h0 rfl) rfl rfl hl.1 rfl (lv_room (Nat.le_of_ble_eq_true rfl)) dX10_walk_10 ⟨Nat.le_refl _, Nat.le_refl _⟩) hA hP hS (fun H locs hP hS hbz_q3 => ?_)
    refine lv_if_eq (tgt := 28) hx hb dX10_walk_13 (by decide) (fun c4 => ?_) (fun c4 => ?_)
    · have hf := it_e c4 hf
      refine lv_bipush (v := (-2)) hx hb dX10_walk_28 (by decide) ?_
      obtain rfl := Option.some.inj hf
      rw [← hQ]
      exact e_iR hx hb hr rfl (tP_i _) hS hlocks dX10_walk_30
    · have hf := ie_e c4 hf
      refine lv_aload_n hx hb dX10_walk_16 rfl (lv_at hl 0 rfl) ?_
      refine r_get (own := RX10) (T := TX10) (n := 9) (ci := 10) (v := .ref (ad 19)) hx hb hts nX10 hown hK hP (by decide) h0 rfl 2 (by decide) k0 rfl dX10_walk_17 ?_
      refine lv_iload_n hx hb dX10_walk_20 rfl (lv_at hl 1 rfl) ?_
      refine lv_iload_n hx hb dX10_walk_21 rfl (lv_at hl 2 rfl) ?_
      obtain ⟨q5, hq5, hf⟩ := bd_e hf
      refine k_iR (va_runV (C := RX9) (As := [.int p0, .int p1]) (rest := []) ⟨hx, hb, hml, hown, hts⟩ (c_X9_minutesBetween (l := l) (sz := H.size) (p0 := p0) (p1 := p1) h5 h6 h8 h19 hq5) (cwV 2 hts gX10_walk_X9_minutesBetween rfl rfl rfl (by decide +kernel) ⟨Nat.le_of_ble_eq_true rfl, Nat.le_of_ble_eq_true rfl⟩) (preV_of hK hP (by decide) h19 rfl) rfl rfl hl.1 rfl (lv_room (Nat.le_of_ble_eq_true rfl)) dX10_walk_22 ⟨Nat.le_refl _, Nat.le_refl _⟩) hA hP hS (fun H locs hP hS hbz_q5 => ?_)
      refine lv_goto (tgt := 30) hx hb dX10_walk_25 (by decide) ?_
      obtain rfl := Option.some.inj hf
      rw [← hQ]
      exact e_iR hx hb hr rfl (tP_i _) hS hlocks dX10_walk_30

def f_X10_flow (p0 : Int32) (p1 : Int32) (t_rain : Nat → Int32) (t_there : Int32) (wa_g : Nat → Int32) : Option (Int32) :=
  (f_X10_isThere p0 t_there).bind fun q1 =>
  if q1 = 0 then
    some ((-2))
  else
    if p1 < 0 then
      some ((-3))
    else
      if p1 < 24 then
        (f_X8_flowAt p0 p1 t_rain wa_g).bind fun q5 =>
        some (q5)
      else
        some ((-3))
abbrev rmX10_flow : Room := { frames := 2, cells := 0, slots := 0, locals := 42 }
set_option maxHeartbeats 4000000 in
set_option maxRecDepth 100000 in
theorem c_X10_flow {l : Launch} {D : va_G} {g : Nat → ClassId} {ad : Nat → Nat} {C : Nat → va_E} {sz : Nat} {t_there : Int32} {t_lift : Int32} {t_none : Int32} {t_rain : Nat → Int32} {wa_g : Nat → Int32} {p0 : Int32} {p1 : Int32} {rr : Int32} (h0 : C 0 = .inr (10, [.ref (ad 1), .ref (ad 5), .ref (ad 19), .ref (ad 21), .ref (ad 60), .ref (ad 77), .ref (ad 81), .ref (ad 84), .ref (ad 85)])) (h5 : C 5 = .inr (7, [.ref (ad 6), .ref (ad 7), .ref (ad 8), .ref (ad 9), .ref (ad 10), .ref (ad 11), .ref (ad 12), .ref (ad 13), .ref (ad 14), .ref (ad 15), .ref (ad 16), .ref (ad 17), .ref (ad 18), .int t_there, .int t_lift, .int t_none])) (h15 : C 15 = aI g 24 t_rain) (h21 : C 21 = .inr (8, [.ref (ad 5), .ref (ad 19), .ref (ad 22), .ref (ad 23)])) (h22 : C 22 = aI g 12 wa_g) (hf : f_X10_flow p0 p1 t_rain t_there wa_g = some rr) : Met l yX10_flow wsX10_flow rmX10_flow (PcW D g 109 ad C sz [.ref (ad 0), .int p0, .int p1]) (QiR sz tP rr) 0 0 (An sz) := by
  refine Met.ofW (cc := cX10_flow) (maxL := 3) (ret := (some .int)) (by decide) rfl ?_
  intro p e s m args below meth c s₁ B hml hv
  obtain ⟨hav, hsz, hK, hP⟩ := hv
  subst hsz
  have hx := B.exec
  have hb := B.bytes
  have hr := B.returns
  have hts := atoms_spec (ws := wsX10_flow) B.pre
  have hown : s.vm.findClass RX10 = some m.cls := findClass_of_methodNamed B.named
  have hlocks := B.notSynchronized
  generalize hQ : MQ below (QiR s.heap.size tP rr) args s 0 0 (An s.heap.size) = QQ
  have hS : va_S (An s.heap.size) s.heap s.heap [] := va_S.rf
  have hA : ∀ q, s.heap.size ≤ q → (An s.heap.size) q := fun q h => h
  have k0 := hts (.fieldLink RX10 37 "UpDrain" "water" "LUpDrain$Water;") (List.mem_of_getElem? (i := 1) rfl)
  have nX10 : ∀ w ∈ u_ws RX10 TX10 9, w ∈ wsX10_flow := fun _ h => List.mem_cons_of_mem _ (List.mem_append_left _ (List.mem_append_left _ (List.mem_append_right _ h)))
  have hE := lg_entry_eq m [.ref (ad 0), .int p0, .int p1] 3
  rw [← hav] at hE
  rw [hE]
  have hl := lv_entry [.ref (ad 0), .int p0, .int p1] (n := 3) (Nat.le_of_ble_eq_true rfl)
  generalize (lg_sl [.ref (ad 0), .int p0, .int p1] ++ List.replicate (3 - (lg_sl [.ref (ad 0), .int p0, .int p1]).length) Slot.unset).toArray = ls at hl ⊢
  have hl : lv_has ls 3 [(0, .ref (ad 0)), (1, .int p0), (2, .int p1)] := hl
  clear hE
  unfold f_X10_flow at hf
  suffices hgo : ∀ (H : Heap) (locs : List Loc), va_P D vwCl (wd 109 ad C) H → va_S (An s.heap.size) s.heap H locs → W p l e (headSpec wsX10_flow rmX10_flow).room s m args below meth c H locs 0 0 QQ (F0 m 0 ls []) from hgo s.heap [] hP hS
  clear hS hP
  intro H locs hP hS
  refine lv_aload_n hx hb dX10_flow_0 rfl (lv_at hl 0 rfl) ?_
  refine lv_iload_n hx hb dX10_flow_1 rfl (lv_at hl 1 rfl) ?_
  obtain ⟨q1, hq1, hf⟩ := bd_e hf
  refine k_iR (va_runV (C := RX10) (As := [.int p0]) (rest := []) ⟨hx, hb, hml, hown, hts⟩ (c_X10_isThere (l := l) (sz := H.size) (p0 := p0) h0 h5 hq1) (cwV 1 hts gX10_flow_X10_isThere rfl rfl rfl (by decide +kernel) ⟨Nat.le_of_ble_eq_true rfl, Nat.le_of_ble_eq_true rfl⟩) (preV_of hK hP (by decide) h0 rfl) rfl rfl hl.1 rfl (lv_room (Nat.le_of_ble_eq_true rfl)) dX10_flow_2 ⟨Nat.le_refl _, Nat.le_refl _⟩) hA hP hS (fun H locs hP hS hbz_q1 => ?_)
  refine lv_if_ne (tgt := 11) hx hb dX10_flow_5 (by decide) (fun c2 => ?_) (fun c2 => ?_)
  · have hf := ie_e c2 hf
    refine lv_iload_n hx hb dX10_flow_11 rfl (lv_at hl 2 rfl) ?_
    refine lv_if_lt (tgt := 21) hx hb dX10_flow_12 (by decide) (fun c3 => ?_) (fun c3 => ?_)
    · have hf := it_e c3 hf
      refine lv_bipush (v := (-3)) hx hb dX10_flow_21 (by decide) ?_
      obtain rfl := Option.some.inj hf
      rw [← hQ]
      exact e_iR hx hb hr rfl (tP_i _) hS hlocks dX10_flow_23
    · have hf := ie_e c3 hf
      refine lv_iload_n hx hb dX10_flow_15 rfl (lv_at hl 2 rfl) ?_
      refine lv_bipush (v := 24) hx hb dX10_flow_16 (by decide) ?_
      refine lv_icmp_lt (tgt := 24) hx hb dX10_flow_18 (by decide) (fun c4 => ?_) (fun c4 => ?_)
      · have hf := it_e c4 hf
        refine lv_aload_n hx hb dX10_flow_24 rfl (lv_at hl 0 rfl) ?_
        refine r_get (own := RX10) (T := TX10) (n := 9) (ci := 10) (v := .ref (ad 21)) hx hb hts nX10 hown hK hP (by decide) h0 rfl 3 (by decide) k0 rfl dX10_flow_25 ?_
        refine lv_iload_n hx hb dX10_flow_28 rfl (lv_at hl 1 rfl) ?_
        refine lv_iload_n hx hb dX10_flow_29 rfl (lv_at hl 2 rfl) ?_
        obtain ⟨q5, hq5, hf⟩ := bd_e hf
        refine k_iR (va_runV (C := RX8) (As := [.int p0, .int p1]) (rest := []) ⟨hx, hb, hml, hown, hts⟩ (c_X8_flowAt (l := l) (sz := H.size) (p0 := p0) (p1 := p1) h5 h15 h21 h22 hq5) (cwV 2 hts gX10_flow_X8_flowAt rfl rfl rfl (by decide +kernel) ⟨Nat.le_of_ble_eq_true rfl, Nat.le_of_ble_eq_true rfl⟩) (preV_of hK hP (by decide) h21 rfl) rfl rfl hl.1 rfl (lv_room (Nat.le_of_ble_eq_true rfl)) dX10_flow_30 ⟨Nat.le_refl _, Nat.le_refl _⟩) hA hP hS (fun H locs hP hS hbz_q5 => ?_)
        obtain rfl := Option.some.inj hf
        rw [← hQ]
        exact e_iR hx hb hr rfl (tP_i _) hS hlocks dX10_flow_33
      · have hf := ie_e c4 hf
        refine lv_bipush (v := (-3)) hx hb dX10_flow_21 (by decide) ?_
        obtain rfl := Option.some.inj hf
        rw [← hQ]
        exact e_iR hx hb hr rfl (tP_i _) hS hlocks dX10_flow_23
  · have hf := it_e c2 hf
    refine lv_bipush (v := (-2)) hx hb dX10_flow_8 (by decide) ?_
    obtain rfl := Option.some.inj hf
    rw [← hQ]
    exact e_iR hx hb hr rfl (tP_i _) hS hlocks dX10_flow_10

def f_X10_isMinute (p0 : Int32) : Option (Int32) :=
  if p0 < 0 then
    some (0)
  else
    if 1440 ≤ p0 then
      some (0)
    else
      some (1)
abbrev rmX10_isMinute : Room := { frames := 0, cells := 0, slots := 0, locals := 0 }
set_option maxHeartbeats 4000000 in
set_option maxRecDepth 100000 in
theorem c_X10_isMinute {l : Launch} {sz : Nat}  {p0 : Int32} {rr : Int32} (hf : f_X10_isMinute p0 = some rr) : Met l yX10_isMinute wsX10_isMinute rmX10_isMinute (PcS sz [.int p0]) (QiR sz bz rr) 0 0 (An sz) := by
  refine Met.ofW (cc := cX10_isMinute) (maxL := 1) (ret := (some .boolean)) (by decide) rfl ?_
  intro p e s m args below meth c s₁ B hml hv
  obtain ⟨hav, hsz⟩ := hv
  subst hsz
  have hx := B.exec
  have hb := B.bytes
  have hr := B.returns
  have hts := atoms_spec (ws := wsX10_isMinute) B.pre
  have hown : s.vm.findClass RX10 = some m.cls := findClass_of_methodNamed B.named
  have hlocks := B.notSynchronized
  generalize hQ : MQ below (QiR s.heap.size bz rr) args s 0 0 (An s.heap.size) = QQ
  have hS : va_S (An s.heap.size) s.heap s.heap [] := va_S.rf
  have hA : ∀ q, s.heap.size ≤ q → (An s.heap.size) q := fun q h => h
  have hE := lg_entry_eq m [.int p0] 1
  rw [← hav] at hE
  rw [hE]
  have hl := lv_entry [.int p0] (n := 1) (Nat.le_of_ble_eq_true rfl)
  generalize (lg_sl [.int p0] ++ List.replicate (1 - (lg_sl [.int p0]).length) Slot.unset).toArray = ls at hl ⊢
  have hl : lv_has ls 1 [(0, .int p0)] := hl
  clear hE
  unfold f_X10_isMinute at hf
  suffices hgo : ∀ (H : Heap) (locs : List Loc), va_S (An s.heap.size) s.heap H locs → W p l e (headSpec wsX10_isMinute rmX10_isMinute).room s m args below meth c H locs 0 0 QQ (F0 m 0 ls []) from hgo s.heap [] hS
  clear hS
  intro H locs hS
  refine lv_iload_n hx hb dX10_isMinute_0 rfl (lv_at hl 0 rfl) ?_
  refine lv_if_lt (tgt := 15) hx hb dX10_isMinute_1 (by decide) (fun c1 => ?_) (fun c1 => ?_)
  · have hf := it_e c1 hf
    refine lv_iconst (v := 0) hx hb dX10_isMinute_15 (by decide) ?_
    obtain rfl := Option.some.inj hf
    rw [← hQ]
    exact e_zR hx hb hr rfl bz0 hS hlocks dX10_isMinute_16
  · have hf := ie_e c1 hf
    refine lv_iload_n hx hb dX10_isMinute_4 rfl (lv_at hl 0 rfl) ?_
    refine lv_sipush (v := 1440) hx hb dX10_isMinute_5 (by decide) ?_
    refine lv_icmp_ge (tgt := 15) hx hb dX10_isMinute_8 (by decide) (fun c2 => ?_) (fun c2 => ?_)
    · have hf := it_e c2 hf
      refine lv_iconst (v := 0) hx hb dX10_isMinute_15 (by decide) ?_
      obtain rfl := Option.some.inj hf
      rw [← hQ]
      exact e_zR hx hb hr rfl bz0 hS hlocks dX10_isMinute_16
    · have hf := ie_e c2 hf
      refine lv_iconst (v := 1) hx hb dX10_isMinute_11 (by decide) ?_
      refine lv_goto (tgt := 16) hx hb dX10_isMinute_12 (by decide) ?_
      obtain rfl := Option.some.inj hf
      rw [← hQ]
      exact e_zR hx hb hr rfl bz1 hS hlocks dX10_isMinute_16

def f_X10_isPart (p0 : Int32) : Option (Int32) :=
  if p0 = 0 then
    some (1)
  else
    if p0 = 1 then
      some (1)
    else
      some (0)
abbrev rmX10_isPart : Room := { frames := 0, cells := 0, slots := 0, locals := 0 }
set_option maxHeartbeats 4000000 in
set_option maxRecDepth 100000 in
theorem c_X10_isPart {l : Launch} {sz : Nat}  {p0 : Int32} {rr : Int32} (hf : f_X10_isPart p0 = some rr) : Met l yX10_isPart wsX10_isPart rmX10_isPart (PcS sz [.int p0]) (QiR sz bz rr) 0 0 (An sz) := by
  refine Met.ofW (cc := cX10_isPart) (maxL := 1) (ret := (some .boolean)) (by decide) rfl ?_
  intro p e s m args below meth c s₁ B hml hv
  obtain ⟨hav, hsz⟩ := hv
  subst hsz
  have hx := B.exec
  have hb := B.bytes
  have hr := B.returns
  have hts := atoms_spec (ws := wsX10_isPart) B.pre
  have hown : s.vm.findClass RX10 = some m.cls := findClass_of_methodNamed B.named
  have hlocks := B.notSynchronized
  generalize hQ : MQ below (QiR s.heap.size bz rr) args s 0 0 (An s.heap.size) = QQ
  have hS : va_S (An s.heap.size) s.heap s.heap [] := va_S.rf
  have hA : ∀ q, s.heap.size ≤ q → (An s.heap.size) q := fun q h => h
  have hE := lg_entry_eq m [.int p0] 1
  rw [← hav] at hE
  rw [hE]
  have hl := lv_entry [.int p0] (n := 1) (Nat.le_of_ble_eq_true rfl)
  generalize (lg_sl [.int p0] ++ List.replicate (1 - (lg_sl [.int p0]).length) Slot.unset).toArray = ls at hl ⊢
  have hl : lv_has ls 1 [(0, .int p0)] := hl
  clear hE
  unfold f_X10_isPart at hf
  suffices hgo : ∀ (H : Heap) (locs : List Loc), va_S (An s.heap.size) s.heap H locs → W p l e (headSpec wsX10_isPart rmX10_isPart).room s m args below meth c H locs 0 0 QQ (F0 m 0 ls []) from hgo s.heap [] hS
  clear hS
  intro H locs hS
  refine lv_iload_n hx hb dX10_isPart_0 rfl (lv_at hl 0 rfl) ?_
  refine lv_if_eq (tgt := 9) hx hb dX10_isPart_1 (by decide) (fun c1 => ?_) (fun c1 => ?_)
  · have hf := it_e c1 hf
    refine lv_iconst (v := 1) hx hb dX10_isPart_9 (by decide) ?_
    refine lv_goto (tgt := 14) hx hb dX10_isPart_10 (by decide) ?_
    obtain rfl := Option.some.inj hf
    rw [← hQ]
    exact e_zR hx hb hr rfl bz1 hS hlocks dX10_isPart_14
  · have hf := ie_e c1 hf
    refine lv_iload_n hx hb dX10_isPart_4 rfl (lv_at hl 0 rfl) ?_
    refine lv_iconst (v := 1) hx hb dX10_isPart_5 (by decide) ?_
    refine lv_icmp_ne (tgt := 13) hx hb dX10_isPart_6 (by decide) (fun c2 => ?_) (fun c2 => ?_)
    · have hf := ie_e c2 hf
      refine lv_iconst (v := 0) hx hb dX10_isPart_13 (by decide) ?_
      obtain rfl := Option.some.inj hf
      rw [← hQ]
      exact e_zR hx hb hr rfl bz0 hS hlocks dX10_isPart_14
    · have hf := it_e c2 hf
      refine lv_iconst (v := 1) hx hb dX10_isPart_9 (by decide) ?_
      refine lv_goto (tgt := 14) hx hb dX10_isPart_10 (by decide) ?_
      obtain rfl := Option.some.inj hf
      rw [← hQ]
      exact e_zR hx hb hr rfl bz1 hS hlocks dX10_isPart_14

def f_X10_comes (p0 : Int32) (p1 : Int32) (p2 : Int32) (p3 : Int32) (t_rain : Nat → Int32) (t_there : Int32) (wa_g : Nat → Int32) (sL : Nat → Nat → Int32) (sT : Nat → Nat → Int32) (sF : Nat → Int32) (sU : Nat → Int32) : Option (Int32) :=
  (f_X10_isThere p0 t_there).bind fun q1 =>
  if q1 = 0 then
    some ((-2))
  else
    (f_X10_isThere p1 t_there).bind fun q3 =>
    if q3 = 0 then
      some ((-2))
    else
      (f_X10_isMinute p2).bind fun q5 =>
      if q5 = 0 then
        some ((-3))
      else
        (f_X10_isPart p3).bind fun q7 =>
        if q7 = 0 then
          some ((-3))
        else
          ix 12 (p0) fun j11 =>
          if p3 = 0 then
            (f_X4_amountAt (24 + 3 * j11) p1 p2 sL sT sF sU).bind fun q14 =>
            some (q14)
          else
            (f_X8_thinAt p1 p2 (some (24 + 3 * j11)) none t_rain wa_g sL sT sF sU).bind fun q13 =>
            some (q13)
abbrev rmX10_comes : Room := { frames := 2, cells := 0, slots := 0, locals := 48 }
set_option maxHeartbeats 4000000 in
set_option maxRecDepth 100000 in
theorem c_X10_comes {l : Launch} {D : va_G} {g : Nat → ClassId} {ad : Nat → Nat} {C : Nat → va_E} {sz : Nat} {t_there : Int32} {t_lift : Int32} {t_none : Int32} {t_rain : Nat → Int32} {wa_g : Nat → Int32} {sL : Nat → Nat → Int32} {sT : Nat → Nat → Int32} {sF : Nat → Int32} {sU : Nat → Int32} {p0 : Int32} {p1 : Int32} {p2 : Int32} {p3 : Int32} {rr : Int32} (h0 : C 0 = .inr (10, [.ref (ad 1), .ref (ad 5), .ref (ad 19), .ref (ad 21), .ref (ad 60), .ref (ad 77), .ref (ad 81), .ref (ad 84), .ref (ad 85)])) (h5 : C 5 = .inr (7, [.ref (ad 6), .ref (ad 7), .ref (ad 8), .ref (ad 9), .ref (ad 10), .ref (ad 11), .ref (ad 12), .ref (ad 13), .ref (ad 14), .ref (ad 15), .ref (ad 16), .ref (ad 17), .ref (ad 18), .int t_there, .int t_lift, .int t_none])) (h15 : C 15 = aI g 24 t_rain) (h21 : C 21 = .inr (8, [.ref (ad 5), .ref (ad 19), .ref (ad 22), .ref (ad 23)])) (h22 : C 22 = aI g 12 wa_g) (h23 : C 23 = aS g 12 (fun i => some (ad (24 + 3 * i)))) (hS_ : PoolS g ad C sL sT sF sU) (hf : f_X10_comes p0 p1 p2 p3 t_rain t_there wa_g sL sT sF sU = some rr) : Met l yX10_comes wsX10_comes rmX10_comes (PcW D g 109 ad C sz [.ref (ad 0), .int p0, .int p1, .int p2, .int p3]) (QiR sz tP rr) 0 0 (An sz) := by
  refine Met.ofW (cc := cX10_comes) (maxL := 6) (ret := (some .int)) (by decide) rfl ?_
  intro p e s m args below meth c s₁ B hml hv
  obtain ⟨hav, hsz, hK, hP⟩ := hv
  subst hsz
  have hx := B.exec
  have hb := B.bytes
  have hr := B.returns
  have hts := atoms_spec (ws := wsX10_comes) B.pre
  have hown : s.vm.findClass RX10 = some m.cls := findClass_of_methodNamed B.named
  have hlocks := B.notSynchronized
  generalize hQ : MQ below (QiR s.heap.size tP rr) args s 0 0 (An s.heap.size) = QQ
  have hS : va_S (An s.heap.size) s.heap s.heap [] := va_S.rf
  have hA : ∀ q, s.heap.size ≤ q → (An s.heap.size) q := fun q h => h
  have k0 := hts (.fieldLink RX10 37 "UpDrain" "water" "LUpDrain$Water;") (List.mem_of_getElem? (i := 1) rfl)
  have nX10 : ∀ w ∈ u_ws RX10 TX10 9, w ∈ wsX10_comes := fun _ h => List.mem_cons_of_mem _ (List.mem_append_left _ (List.mem_append_left _ (List.mem_append_left _ (List.mem_append_right _ h))))
  have k2 := nf_57 (A := args) hK
  have nX8 : ∀ w ∈ u_ws RX8 TX8 4, w ∈ wsX10_comes := fun _ h => List.mem_cons_of_mem _ (List.mem_append_left _ (List.mem_append_left _ (List.mem_append_right _ h)))
  have hE := lg_entry_eq m [.ref (ad 0), .int p0, .int p1, .int p2, .int p3] 6
  rw [← hav] at hE
  rw [hE]
  have hl := lv_entry [.ref (ad 0), .int p0, .int p1, .int p2, .int p3] (n := 6) (Nat.le_of_ble_eq_true rfl)
  generalize (lg_sl [.ref (ad 0), .int p0, .int p1, .int p2, .int p3] ++ List.replicate (6 - (lg_sl [.ref (ad 0), .int p0, .int p1, .int p2, .int p3]).length) Slot.unset).toArray = ls at hl ⊢
  have hl : lv_has ls 6 [(0, .ref (ad 0)), (1, .int p0), (2, .int p1), (3, .int p2), (4, .int p3)] := hl
  clear hE
  unfold f_X10_comes at hf
  suffices hgo : ∀ (H : Heap) (locs : List Loc), va_P D vwCl (wd 109 ad C) H → va_S (An s.heap.size) s.heap H locs → W p l e (headSpec wsX10_comes rmX10_comes).room s m args below meth c H locs 0 0 QQ (F0 m 0 ls []) from hgo s.heap [] hP hS
  clear hS hP
  intro H locs hP hS
  refine lv_aload_n hx hb dX10_comes_0 rfl (lv_at hl 0 rfl) ?_
  refine lv_iload_n hx hb dX10_comes_1 rfl (lv_at hl 1 rfl) ?_
  obtain ⟨q1, hq1, hf⟩ := bd_e hf
  refine k_iR (va_runV (C := RX10) (As := [.int p0]) (rest := []) ⟨hx, hb, hml, hown, hts⟩ (c_X10_isThere (l := l) (sz := H.size) (p0 := p0) h0 h5 hq1) (cwV 1 hts gX10_comes_X10_isThere rfl rfl rfl (by decide +kernel) ⟨Nat.le_of_ble_eq_true rfl, Nat.le_of_ble_eq_true rfl⟩) (preV_of hK hP (by decide) h0 rfl) rfl rfl hl.1 rfl (lv_room (Nat.le_of_ble_eq_true rfl)) dX10_comes_2 ⟨Nat.le_refl _, Nat.le_refl _⟩) hA hP hS (fun H locs hP hS hbz_q1 => ?_)
  refine lv_if_eq (tgt := 16) hx hb dX10_comes_5 (by decide) (fun c2 => ?_) (fun c2 => ?_)
  · have hf := it_e c2 hf
    refine lv_bipush (v := (-2)) hx hb dX10_comes_16 (by decide) ?_
    obtain rfl := Option.some.inj hf
    rw [← hQ]
    exact e_iR hx hb hr rfl (tP_i _) hS hlocks dX10_comes_18
  · have hf := ie_e c2 hf
    refine lv_aload_n hx hb dX10_comes_8 rfl (lv_at hl 0 rfl) ?_
    refine lv_iload_n hx hb dX10_comes_9 rfl (lv_at hl 2 rfl) ?_
    obtain ⟨q3, hq3, hf⟩ := bd_e hf
    refine k_iR (va_runV (C := RX10) (As := [.int p1]) (rest := []) ⟨hx, hb, hml, hown, hts⟩ (c_X10_isThere (l := l) (sz := H.size) (p0 := p1) h0 h5 hq3) (cwV 1 hts gX10_comes_X10_isThere rfl rfl rfl (by decide +kernel) ⟨Nat.le_of_ble_eq_true rfl, Nat.le_of_ble_eq_true rfl⟩) (preV_of hK hP (by decide) h0 rfl) rfl rfl hl.1 rfl (lv_room (Nat.le_of_ble_eq_true rfl)) dX10_comes_10 ⟨Nat.le_refl _, Nat.le_refl _⟩) hA hP hS (fun H locs hP hS hbz_q3 => ?_)
    refine lv_if_ne (tgt := 19) hx hb dX10_comes_13 (by decide) (fun c4 => ?_) (fun c4 => ?_)
    · have hf := ie_e c4 hf
      refine lv_iload_n hx hb dX10_comes_19 rfl (lv_at hl 3 rfl) ?_
      obtain ⟨q5, hq5, hf⟩ := bd_e hf
      refine k_iR (va_runS (As := [.int p2]) (rest := []) ⟨hx, hb, hml, hown, hts⟩ (c_X10_isMinute (l := l) (sz := H.size) (p0 := p2) hq5) (va_cwS 1 hts gX10_comes_X10_isMinute rfl rfl rfl (by decide +kernel) ⟨Nat.le_of_ble_eq_true rfl, Nat.le_of_ble_eq_true rfl⟩) preS0 rfl rfl hl.1 rfl (lv_room (Nat.le_of_ble_eq_true rfl)) dX10_comes_20 ⟨Nat.le_refl _, Nat.le_refl _⟩) hA hP hS (fun H locs hP hS hbz_q5 => ?_)
      refine lv_if_eq (tgt := 34) hx hb dX10_comes_23 (by decide) (fun c6 => ?_) (fun c6 => ?_)
      · have hf := it_e c6 hf
        refine lv_bipush (v := (-3)) hx hb dX10_comes_34 (by decide) ?_
        obtain rfl := Option.some.inj hf
        rw [← hQ]
        exact e_iR hx hb hr rfl (tP_i _) hS hlocks dX10_comes_36
      · have hf := ie_e c6 hf
        refine lv_iload hx hb dX10_comes_26 (lv_at hl 4 rfl) ?_
        obtain ⟨q7, hq7, hf⟩ := bd_e hf
        refine k_iR (va_runS (As := [.int p3]) (rest := []) ⟨hx, hb, hml, hown, hts⟩ (c_X10_isPart (l := l) (sz := H.size) (p0 := p3) hq7) (va_cwS 1 hts gX10_comes_X10_isPart rfl rfl rfl (by decide +kernel) ⟨Nat.le_of_ble_eq_true rfl, Nat.le_of_ble_eq_true rfl⟩) preS0 rfl rfl hl.1 rfl (lv_room (Nat.le_of_ble_eq_true rfl)) dX10_comes_28 ⟨Nat.le_refl _, Nat.le_refl _⟩) hA hP hS (fun H locs hP hS hbz_q7 => ?_)
        refine lv_if_ne (tgt := 37) hx hb dX10_comes_31 (by decide) (fun c8 => ?_) (fun c8 => ?_)
        · have hf := ie_e c8 hf
          refine lv_aload_n hx hb dX10_comes_37 rfl (lv_at hl 0 rfl) ?_
          refine r_get (own := RX10) (T := TX10) (n := 9) (ci := 10) (v := .ref (ad 21)) hx hb hts nX10 hown hK hP (by decide) h0 rfl 3 (by decide) k0 rfl dX10_comes_38 ?_
          refine r_getN (own := RX10) (T := TX8) (n := 4) (ci := 8) (v := .ref (ad 23)) hx hb hts nX8 hown hK hP (by decide) h21 rfl 3 (by decide) k2 rfl dX10_comes_41 ?_
          refine lv_iload_n hx hb dX10_comes_44 rfl (lv_at hl 1 rfl) ?_
          obtain ⟨i9, hf⟩ := ix_e hf
          refine r_aldS hx hb hK hP (by decide) h23 i9 dX10_comes_45 ?_
          obtain ⟨j11, ej11⟩ : ∃ z : Nat, z = Int32.toNatClampNeg p0 := ⟨_, rfl⟩
          rw [← ej11] at hf ⊢
          have hbj11 : isSB (24 + 3 * j11) := isSB_i (by rw [ej11]; exact vp_lt i9)
          refine W.eq (g2 := F0 m 46 ls [.ref (ad (24 + 3 * j11))]) rfl ?_
          refine lv_astore (lv' := [(5, .ref (ad (24 + 3 * j11))), (0, .ref (ad 0)), (1, .int p0), (2, .int p1), (3, .int p2), (4, .int p3)]) hx hb dX10_comes_46 hl (by decide) rfl (fun ls hl => ?_)
          refine lv_iload hx hb dX10_comes_48 (lv_at hl 5 rfl) ?_
          refine lv_if_ne (tgt := 63) hx hb dX10_comes_50 (by decide) (fun c12 => ?_) (fun c12 => ?_)
          · have hf := ie_e c12 hf
            refine lv_aload_n hx hb dX10_comes_63 rfl (lv_at hl 1 rfl) ?_
            refine r_get (own := RX10) (T := TX10) (n := 9) (ci := 10) (v := .ref (ad 21)) hx hb hts nX10 hown hK hP (by decide) h0 rfl 3 (by decide) k0 rfl dX10_comes_64 ?_
            refine lv_iload_n hx hb dX10_comes_67 rfl (lv_at hl 3 rfl) ?_
            refine lv_iload_n hx hb dX10_comes_68 rfl (lv_at hl 4 rfl) ?_
            refine lv_aload hx hb dX10_comes_69 (lv_at hl 0 rfl) ?_
            refine lv_null hx hb dX10_comes_71 ?_
            obtain ⟨q13, hq13, hf⟩ := bd_e hf
            refine k_iR (va_runV (C := RX8) (As := [.int p1, .int p2, .ref (ad (24 + 3 * j11)), .null]) (rest := []) ⟨hx, hb, hml, hown, hts⟩ (c_X8_thinAt (l := l) (sz := H.size) (p0 := p1) (p1 := p2) (p2 := (some (24 + 3 * j11))) (p3 := none) (oS_s hbj11) oS_n h5 h15 h21 h22 hS_ hq13) (cwV 4 hts gX10_comes_X8_thinAt rfl rfl rfl (by decide +kernel) ⟨Nat.le_of_ble_eq_true rfl, Nat.le_of_ble_eq_true rfl⟩) (preV_of hK hP (by decide) h21 rfl) rfl rfl hl.1 rfl (lv_room (Nat.le_of_ble_eq_true rfl)) dX10_comes_72 ⟨Nat.le_refl _, Nat.le_refl _⟩) hA hP hS (fun H locs hP hS hbz_q13 => ?_)
            obtain rfl := Option.some.inj hf
            rw [← hQ]
            exact e_iR hx hb hr rfl (tP_i _) hS hlocks dX10_comes_75
          · have hf := it_e c12 hf
            refine lv_aload hx hb dX10_comes_53 (lv_at hl 0 rfl) ?_
            refine lv_iload_n hx hb dX10_comes_55 rfl (lv_at hl 3 rfl) ?_
            refine lv_iload_n hx hb dX10_comes_56 rfl (lv_at hl 4 rfl) ?_
            obtain ⟨q14, hq14, hf⟩ := bd_e hf
            refine k_iR (va_runV (C := RX4) (As := [.int p1, .int p2]) (rest := []) ⟨hx, hb, hml, hown, hts⟩ (c_X4_amountAt (l := l) (sz := H.size) (p0 := p1) (p1 := p2) (b := (24 + 3 * j11)) hbj11 hS_ hq14) (cwV 2 hts gX10_comes_X4_amountAt rfl rfl rfl (by decide +kernel) ⟨Nat.le_of_ble_eq_true rfl, Nat.le_of_ble_eq_true rfl⟩) (preV_of hK hP (isSB_0 hbj11) (hS_ (24 + 3 * j11) hbj11).1 rfl) rfl rfl hl.1 rfl (lv_room (Nat.le_of_ble_eq_true rfl)) dX10_comes_57 ⟨Nat.le_refl _, Nat.le_refl _⟩) hA hP hS (fun H locs hP hS hbz_q14 => ?_)
            refine lv_goto (tgt := 75) hx hb dX10_comes_60 (by decide) ?_
            obtain rfl := Option.some.inj hf
            rw [← hQ]
            exact e_iR hx hb hr rfl (tP_i _) hS hlocks dX10_comes_75
        · have hf := it_e c8 hf
          refine lv_bipush (v := (-3)) hx hb dX10_comes_34 (by decide) ?_
          obtain rfl := Option.some.inj hf
          rw [← hQ]
          exact e_iR hx hb hr rfl (tP_i _) hS hlocks dX10_comes_36
    · have hf := it_e c4 hf
      refine lv_bipush (v := (-2)) hx hb dX10_comes_16 (by decide) ?_
      obtain rfl := Option.some.inj hf
      rw [← hQ]
      exact e_iR hx hb hr rfl (tP_i _) hS hlocks dX10_comes_18

def f_X10_canFill (p0 : Int32) (p1 : Int32) (p2 : Int32) (t_there : Int32) : Option (Int32) :=
  if p0 = 0 then
    some (0)
  else
    if (p0 &&& (t_there ^^^ (-1))) = 0 then
      (f_X10_isMinute p1).bind fun q3 =>
      if q3 = 0 then
        some (0)
      else
        if p2 < 1 then
          some (0)
        else
          if 6 < p2 then
            some (0)
          else
            (f_X10_isMinute (p1 + ((p2 - 1) * 60))).bind fun q7 =>
            if q7 = 0 then
              some (0)
            else
              some (1)
    else
      some (0)
abbrev rmX10_canFill : Room := { frames := 1, cells := 0, slots := 0, locals := 20 }
set_option maxHeartbeats 4000000 in
set_option maxRecDepth 100000 in
theorem c_X10_canFill {l : Launch} {D : va_G} {g : Nat → ClassId} {ad : Nat → Nat} {C : Nat → va_E} {sz : Nat} {t_there : Int32} {t_lift : Int32} {t_none : Int32} {p0 : Int32} {p1 : Int32} {p2 : Int32} {rr : Int32} (h0 : C 0 = .inr (10, [.ref (ad 1), .ref (ad 5), .ref (ad 19), .ref (ad 21), .ref (ad 60), .ref (ad 77), .ref (ad 81), .ref (ad 84), .ref (ad 85)])) (h5 : C 5 = .inr (7, [.ref (ad 6), .ref (ad 7), .ref (ad 8), .ref (ad 9), .ref (ad 10), .ref (ad 11), .ref (ad 12), .ref (ad 13), .ref (ad 14), .ref (ad 15), .ref (ad 16), .ref (ad 17), .ref (ad 18), .int t_there, .int t_lift, .int t_none])) (hf : f_X10_canFill p0 p1 p2 t_there = some rr) : Met l yX10_canFill wsX10_canFill rmX10_canFill (PcW D g 109 ad C sz [.ref (ad 0), .int p0, .int p1, .int p2]) (QiR sz bz rr) 0 0 (An sz) := by
  refine Met.ofW (cc := cX10_canFill) (maxL := 4) (ret := (some .boolean)) (by decide) rfl ?_
  intro p e s m args below meth c s₁ B hml hv
  obtain ⟨hav, hsz, hK, hP⟩ := hv
  subst hsz
  have hx := B.exec
  have hb := B.bytes
  have hr := B.returns
  have hts := atoms_spec (ws := wsX10_canFill) B.pre
  have hown : s.vm.findClass RX10 = some m.cls := findClass_of_methodNamed B.named
  have hlocks := B.notSynchronized
  generalize hQ : MQ below (QiR s.heap.size bz rr) args s 0 0 (An s.heap.size) = QQ
  have hS : va_S (An s.heap.size) s.heap s.heap [] := va_S.rf
  have hA : ∀ q, s.heap.size ≤ q → (An s.heap.size) q := fun q h => h
  have k0 := hts (.fieldLink RX10 19 "UpDrain" "plan" "LUpDrain$Town;") (List.mem_of_getElem? (i := 1) rfl)
  have nX10 : ∀ w ∈ u_ws RX10 TX10 9, w ∈ wsX10_canFill := fun _ h => List.mem_cons_of_mem _ (List.mem_append_left _ (List.mem_append_right _ h))
  have k2 := nf_40 (A := args) hK
  have nX7 : ∀ w ∈ u_ws RX7 TX7 16, w ∈ wsX10_canFill := fun _ h => List.mem_cons_of_mem _ (List.mem_append_right _ h)
  have hE := lg_entry_eq m [.ref (ad 0), .int p0, .int p1, .int p2] 4
  rw [← hav] at hE
  rw [hE]
  have hl := lv_entry [.ref (ad 0), .int p0, .int p1, .int p2] (n := 4) (Nat.le_of_ble_eq_true rfl)
  generalize (lg_sl [.ref (ad 0), .int p0, .int p1, .int p2] ++ List.replicate (4 - (lg_sl [.ref (ad 0), .int p0, .int p1, .int p2]).length) Slot.unset).toArray = ls at hl ⊢
  have hl : lv_has ls 4 [(0, .ref (ad 0)), (1, .int p0), (2, .int p1), (3, .int p2)] := hl
  clear hE
  unfold f_X10_canFill at hf
  suffices hgo : ∀ (H : Heap) (locs : List Loc), va_P D vwCl (wd 109 ad C) H → va_S (An s.heap.size) s.heap H locs → W p l e (headSpec wsX10_canFill rmX10_canFill).room s m args below meth c H locs 0 0 QQ (F0 m 0 ls []) from hgo s.heap [] hP hS
  clear hS hP
  intro H locs hP hS
  refine lv_iload_n hx hb dX10_canFill_0 rfl (lv_at hl 1 rfl) ?_
  refine lv_if_eq (tgt := 18) hx hb dX10_canFill_1 (by decide) (fun c1 => ?_) (fun c1 => ?_)
  · have hf := it_e c1 hf
    refine lv_iconst (v := 0) hx hb dX10_canFill_18 (by decide) ?_
    obtain rfl := Option.some.inj hf
    rw [← hQ]
    exact e_zR hx hb hr rfl bz0 hS hlocks dX10_canFill_19
  · have hf := ie_e c1 hf
    refine lv_iload_n hx hb dX10_canFill_4 rfl (lv_at hl 1 rfl) ?_
    refine lv_aload_n hx hb dX10_canFill_5 rfl (lv_at hl 0 rfl) ?_
    refine r_get (own := RX10) (T := TX10) (n := 9) (ci := 10) (v := .ref (ad 5)) hx hb hts nX10 hown hK hP (by decide) h0 rfl 1 (by decide) k0 rfl dX10_canFill_6 ?_
    refine r_getN (own := RX10) (T := TX7) (n := 16) (ci := 7) (v := .int t_there) hx hb hts nX7 hown hK hP (by decide) h5 rfl 13 (by decide) k2 rfl dX10_canFill_9 ?_
    refine lv_iconst (v := (-1)) hx hb dX10_canFill_12 (by decide) ?_
    refine lv_ixor hx hb dX10_canFill_13 ?_
    refine lv_iand hx hb dX10_canFill_14 ?_
    refine lv_if_eq (tgt := 20) hx hb dX10_canFill_15 (by decide) (fun c2 => ?_) (fun c2 => ?_)
    · have hf := it_e c2 hf
      refine lv_iload_n hx hb dX10_canFill_20 rfl (lv_at hl 2 rfl) ?_
      obtain ⟨q3, hq3, hf⟩ := bd_e hf
      refine k_iR (va_runS (As := [.int p1]) (rest := []) ⟨hx, hb, hml, hown, hts⟩ (c_X10_isMinute (l := l) (sz := H.size) (p0 := p1) hq3) (va_cwS 1 hts gX10_canFill_X10_isMinute rfl rfl rfl (by decide +kernel) ⟨Nat.le_of_ble_eq_true rfl, Nat.le_of_ble_eq_true rfl⟩) preS0 rfl rfl hl.1 rfl (lv_room (Nat.le_of_ble_eq_true rfl)) dX10_canFill_21 ⟨Nat.le_refl _, Nat.le_refl _⟩) hA hP hS (fun H locs hP hS hbz_q3 => ?_)
      refine lv_if_eq (tgt := 56) hx hb dX10_canFill_24 (by decide) (fun c4 => ?_) (fun c4 => ?_)
      · have hf := it_e c4 hf
        refine lv_iconst (v := 0) hx hb dX10_canFill_56 (by decide) ?_
        obtain rfl := Option.some.inj hf
        rw [← hQ]
        exact e_zR hx hb hr rfl bz0 hS hlocks dX10_canFill_57
      · have hf := ie_e c4 hf
        refine lv_iload_n hx hb dX10_canFill_27 rfl (lv_at hl 3 rfl) ?_
        refine lv_iconst (v := 1) hx hb dX10_canFill_28 (by decide) ?_
        refine lv_icmp_lt (tgt := 56) hx hb dX10_canFill_29 (by decide) (fun c5 => ?_) (fun c5 => ?_)
        · have hf := it_e c5 hf
          refine lv_iconst (v := 0) hx hb dX10_canFill_56 (by decide) ?_
          obtain rfl := Option.some.inj hf
          rw [← hQ]
          exact e_zR hx hb hr rfl bz0 hS hlocks dX10_canFill_57
        · have hf := ie_e c5 hf
          refine lv_iload_n hx hb dX10_canFill_32 rfl (lv_at hl 3 rfl) ?_
          refine lv_bipush (v := 6) hx hb dX10_canFill_33 (by decide) ?_
          refine lv_icmp_gt (tgt := 56) hx hb dX10_canFill_35 (by decide) (fun c6 => ?_) (fun c6 => ?_)
          · have hf := it_e c6 hf
            refine lv_iconst (v := 0) hx hb dX10_canFill_56 (by decide) ?_
            obtain rfl := Option.some.inj hf
            rw [← hQ]
            exact e_zR hx hb hr rfl bz0 hS hlocks dX10_canFill_57
          · have hf := ie_e c6 hf
            refine lv_iload_n hx hb dX10_canFill_38 rfl (lv_at hl 2 rfl) ?_
            refine lv_iload_n hx hb dX10_canFill_39 rfl (lv_at hl 3 rfl) ?_
            refine lv_iconst (v := 1) hx hb dX10_canFill_40 (by decide) ?_
            refine lv_isub hx hb dX10_canFill_41 ?_
            refine lv_bipush (v := 60) hx hb dX10_canFill_42 (by decide) ?_
            refine lv_imul hx hb dX10_canFill_44 ?_
            refine lv_iadd hx hb dX10_canFill_45 ?_
            obtain ⟨q7, hq7, hf⟩ := bd_e hf
            refine k_iR (va_runS (As := [.int (p1 + ((p2 - 1) * 60))]) (rest := []) ⟨hx, hb, hml, hown, hts⟩ (c_X10_isMinute (l := l) (sz := H.size) (p0 := (p1 + ((p2 - 1) * 60))) hq7) (va_cwS 1 hts gX10_canFill_X10_isMinute rfl rfl rfl (by decide +kernel) ⟨Nat.le_of_ble_eq_true rfl, Nat.le_of_ble_eq_true rfl⟩) preS0 rfl rfl hl.1 rfl (lv_room (Nat.le_of_ble_eq_true rfl)) dX10_canFill_46 ⟨Nat.le_refl _, Nat.le_refl _⟩) hA hP hS (fun H locs hP hS hbz_q7 => ?_)
            refine lv_if_eq (tgt := 56) hx hb dX10_canFill_49 (by decide) (fun c8 => ?_) (fun c8 => ?_)
            · have hf := it_e c8 hf
              refine lv_iconst (v := 0) hx hb dX10_canFill_56 (by decide) ?_
              obtain rfl := Option.some.inj hf
              rw [← hQ]
              exact e_zR hx hb hr rfl bz0 hS hlocks dX10_canFill_57
            · have hf := ie_e c8 hf
              refine lv_iconst (v := 1) hx hb dX10_canFill_52 (by decide) ?_
              refine lv_goto (tgt := 57) hx hb dX10_canFill_53 (by decide) ?_
              obtain rfl := Option.some.inj hf
              rw [← hQ]
              exact e_zR hx hb hr rfl bz1 hS hlocks dX10_canFill_57
    · have hf := ie_e c2 hf
      refine lv_iconst (v := 0) hx hb dX10_canFill_18 (by decide) ?_
      obtain rfl := Option.some.inj hf
      rw [← hQ]
      exact e_zR hx hb hr rfl bz0 hS hlocks dX10_canFill_19

def f_X10_should (p0 : Int32) (p1 : Int32) (p2 : Int32) (p3 : Int32) (p4 : Int32) (t_rain : Nat → Int32) (t_tell : Nat → Int32) (t_there : Int32) (wa_g : Nat → Int32) (sL : Nat → Nat → Int32) (sT : Nat → Nat → Int32) (sF : Nat → Int32) (sU : Nat → Int32) (fC : Nat → Int32) (fS : Nat → Int32) (fM : Nat → Int32) (fT : Nat → Int32) (fY : Nat → Int32) : Option (Int32 × (Nat → Int32) × (Nat → Int32) × (Nat → Int32) × (Nat → Int32) × (Nat → Int32)) :=
  (f_X10_isThere p0 t_there).bind fun q1 =>
  if q1 = 0 then
    some ((-2), fC, fS, fM, fT, fY)
  else
    (f_X10_isCup p1).bind fun q3 =>
    if q3 = 0 then
      some ((-2), fC, fS, fM, fT, fY)
    else
      (f_X10_canFill p2 p3 p4 t_there).bind fun q5 =>
      if q5 = 0 then
        some ((-3), fC, fS, fM, fT, fY)
      else
        (f_X1_put 85 p1 p2 p3 p4 1 fC fS fM fT fY).bind fun q7 =>
        ix 12 (p0) fun j10 =>
        (f_X8_shouldSayYes 85 (some (24 + 3 * j10)) none t_rain t_tell wa_g sL sT sF sU q7.1 q7.2.1 q7.2.2.1 q7.2.2.2.1).bind fun q11 =>
        if q11 = 0 then
          some (0, q7.1, q7.2.1, q7.2.2.1, q7.2.2.2.1, q7.2.2.2.2)
        else
          some (1, q7.1, q7.2.1, q7.2.2.1, q7.2.2.2.1, q7.2.2.2.2)
abbrev rmX10_should : Room := { frames := 4, cells := 0, slots := 0, locals := 100 }
set_option maxHeartbeats 4000000 in
set_option maxRecDepth 100000 in
theorem c_X10_should {l : Launch} {D : va_G} {g : Nat → ClassId} {ad : Nat → Nat} {C : Nat → va_E} {sz : Nat} {t_there : Int32} {t_lift : Int32} {t_none : Int32} {t_rain : Nat → Int32} {t_tell : Nat → Int32} {wa_g : Nat → Int32} {fC : Nat → Int32} {fS : Nat → Int32} {fM : Nat → Int32} {fT : Nat → Int32} {fY : Nat → Int32} {sL : Nat → Nat → Int32} {sT : Nat → Nat → Int32} {sF : Nat → Int32} {sU : Nat → Int32} {p0 : Int32} {p1 : Int32} {p2 : Int32} {p3 : Int32} {p4 : Int32} {rr : Int32 × (Nat → Int32) × (Nat → Int32) × (Nat → Int32) × (Nat → Int32) × (Nat → Int32)} (hI : Inj 109 ad) (h0 : C 0 = .inr (10, [.ref (ad 1), .ref (ad 5), .ref (ad 19), .ref (ad 21), .ref (ad 60), .ref (ad 77), .ref (ad 81), .ref (ad 84), .ref (ad 85)])) (h5 : C 5 = .inr (7, [.ref (ad 6), .ref (ad 7), .ref (ad 8), .ref (ad 9), .ref (ad 10), .ref (ad 11), .ref (ad 12), .ref (ad 13), .ref (ad 14), .ref (ad 15), .ref (ad 16), .ref (ad 17), .ref (ad 18), .int t_there, .int t_lift, .int t_none])) (h15 : C 15 = aI g 24 t_rain) (h16 : C 16 = aI g 4 t_tell) (h21 : C 21 = .inr (8, [.ref (ad 5), .ref (ad 19), .ref (ad 22), .ref (ad 23)])) (h22 : C 22 = aI g 12 wa_g) (h23 : C 23 = aS g 12 (fun i => some (ad (24 + 3 * i)))) (hF_ : PoolF C fC fS fM fT fY) (hS_ : PoolS g ad C sL sT sF sU) (hf : f_X10_should p0 p1 p2 p3 p4 t_rain t_tell t_there wa_g sL sT sF sU fC fS fM fT fY = some rr) : Met l yX10_should wsX10_should rmX10_should (PcW D g 109 ad C sz [.ref (ad 0), .int p0, .int p1, .int p2, .int p3, .int p4]) (QiW D 109 ad sz tP rr.1 (fun C' => (∀ i : Nat, (i < 67 ∨ 76 < i) ∧ i ≠ 85 → C' i = C i) ∧ (PoolF C' rr.2.1 rr.2.2.1 rr.2.2.2.1 rr.2.2.2.2.1 rr.2.2.2.2.2))) 0 0 (Aw 109 ad sz) := by
  refine Met.ofW (cc := cX10_should) (maxL := 6) (ret := (some .int)) (by decide) rfl ?_
  intro p e s m args below meth c s₁ B hml hv
  obtain ⟨hav, hsz, hK, hP⟩ := hv
  subst hsz
  have hx := B.exec
  have hb := B.bytes
  have hr := B.returns
  have hts := atoms_spec (ws := wsX10_should) B.pre
  have hown : s.vm.findClass RX10 = some m.cls := findClass_of_methodNamed B.named
  have hlocks := B.notSynchronized
  generalize hQ : MQ below (QiW D 109 ad s.heap.size tP rr.1 (fun C' => (∀ i : Nat, (i < 67 ∨ 76 < i) ∧ i ≠ 85 → C' i = C i) ∧ (PoolF C' rr.2.1 rr.2.2.1 rr.2.2.2.1 rr.2.2.2.2.1 rr.2.2.2.2.2))) args s 0 0 (Aw 109 ad s.heap.size) = QQ
  have hS : va_S (Aw 109 ad s.heap.size) s.heap s.heap [] := va_S.rf
  have hA : ∀ q, s.heap.size ≤ q → (Aw 109 ad s.heap.size) q := fun q h => Or.inr h
  have hAd : ∀ j : Nat, j < 109 → (Aw 109 ad s.heap.size) (ad j) := fun j h => Or.inl ⟨j, h, rfl⟩
  obtain ⟨C0, hC0⟩ : ∃ C0 : Nat → va_E, C0 = C := ⟨_, rfl⟩
  have hag : ∀ i : Nat, (i < 67 ∨ 76 < i) ∧ i ≠ 85 → C i = C0 i := fun i _ => by rw [hC0]
  rw [← hC0] at hQ
  have k0 := hts (.fieldLink RX10 76 "UpDrain" "asked" "LUpDrain$Filling;") (List.mem_of_getElem? (i := 1) rfl)
  have nX10 : ∀ w ∈ u_ws RX10 TX10 9, w ∈ wsX10_should := fun _ h => List.mem_cons_of_mem _ (List.mem_append_left _ (List.mem_append_left _ (List.mem_append_left _ (List.mem_append_left _ (List.mem_append_right _ h)))))
  have k2 := hts (.fieldLink RX10 37 "UpDrain" "water" "LUpDrain$Water;") (List.mem_of_getElem? (i := 2) rfl)
  have k3 := nf_57 (A := args) hK
  have nX8 : ∀ w ∈ u_ws RX8 TX8 4, w ∈ wsX10_should := fun _ h => List.mem_cons_of_mem _ (List.mem_append_left _ (List.mem_append_left _ (List.mem_append_left _ (List.mem_append_right _ h))))
  have hE := lg_entry_eq m [.ref (ad 0), .int p0, .int p1, .int p2, .int p3, .int p4] 6
  rw [← hav] at hE
  rw [hE]
  have hl := lv_entry [.ref (ad 0), .int p0, .int p1, .int p2, .int p3, .int p4] (n := 6) (Nat.le_of_ble_eq_true rfl)
  generalize (lg_sl [.ref (ad 0), .int p0, .int p1, .int p2, .int p3, .int p4] ++ List.replicate (6 - (lg_sl [.ref (ad 0), .int p0, .int p1, .int p2, .int p3, .int p4]).length) Slot.unset).toArray = ls at hl ⊢
  have hl : lv_has ls 6 [(0, .ref (ad 0)), (1, .int p0), (2, .int p1), (3, .int p2), (4, .int p3), (5, .int p4)] := hl
  clear hE
  unfold f_X10_should at hf
  suffices hgo : ∀ (H : Heap) (locs : List Loc), va_P D vwCl (wd 109 ad C) H → va_S (Aw 109 ad s.heap.size) s.heap H locs → W p l e (headSpec wsX10_should rmX10_should).room s m args below meth c H locs 0 0 QQ (F0 m 0 ls []) from hgo s.heap [] hP hS
  clear hS hP
  intro H locs hP hS
  refine lv_aload_n hx hb dX10_should_0 rfl (lv_at hl 0 rfl) ?_
  refine lv_iload_n hx hb dX10_should_1 rfl (lv_at hl 1 rfl) ?_
  obtain ⟨q1, hq1, hf⟩ := bd_e hf
  refine k_iR (va_runV (C := RX10) (As := [.int p0]) (rest := []) ⟨hx, hb, hml, hown, hts⟩ (c_X10_isThere (l := l) (sz := H.size) (p0 := p0) h0 h5 hq1) (cwV 1 hts gX10_should_X10_isThere rfl rfl rfl (by decide +kernel) ⟨Nat.le_of_ble_eq_true rfl, Nat.le_of_ble_eq_true rfl⟩) (preV_of hK hP (by decide) h0 rfl) rfl rfl hl.1 rfl (lv_room (Nat.le_of_ble_eq_true rfl)) dX10_should_2 ⟨Nat.le_refl _, Nat.le_refl _⟩) hA hP hS (fun H locs hP hS hbz_q1 => ?_)
  refine lv_if_eq (tgt := 15) hx hb dX10_should_5 (by decide) (fun c2 => ?_) (fun c2 => ?_)
  · have hf := it_e c2 hf
    refine lv_bipush (v := (-2)) hx hb dX10_should_15 (by decide) ?_
    obtain rfl := Option.some.inj hf
    rw [← hQ]
    exact e_iW hx hb hr rfl (tP_i _) hP hS ⟨hag, hF_⟩ hlocks dX10_should_17
  · have hf := ie_e c2 hf
    refine lv_iload_n hx hb dX10_should_8 rfl (lv_at hl 2 rfl) ?_
    obtain ⟨q3, hq3, hf⟩ := bd_e hf
    refine k_iR (va_runS (As := [.int p1]) (rest := []) ⟨hx, hb, hml, hown, hts⟩ (c_X10_isCup (l := l) (sz := H.size) (p0 := p1) hq3) (va_cwS 1 hts gX10_should_X10_isCup rfl rfl rfl (by decide +kernel) ⟨Nat.le_of_ble_eq_true rfl, Nat.le_of_ble_eq_true rfl⟩) preS0 rfl rfl hl.1 rfl (lv_room (Nat.le_of_ble_eq_true rfl)) dX10_should_9 ⟨Nat.le_refl _, Nat.le_refl _⟩) hA hP hS (fun H locs hP hS hbz_q3 => ?_)
    refine lv_if_ne (tgt := 18) hx hb dX10_should_12 (by decide) (fun c4 => ?_) (fun c4 => ?_)
    · have hf := ie_e c4 hf
      refine lv_aload_n hx hb dX10_should_18 rfl (lv_at hl 0 rfl) ?_
      refine lv_iload_n hx hb dX10_should_19 rfl (lv_at hl 3 rfl) ?_
      refine lv_iload hx hb dX10_should_20 (lv_at hl 4 rfl) ?_
      refine lv_iload hx hb dX10_should_22 (lv_at hl 5 rfl) ?_
      obtain ⟨q5, hq5, hf⟩ := bd_e hf
      refine k_iR (va_runV (C := RX10) (As := [.int p2, .int p3, .int p4]) (rest := []) ⟨hx, hb, hml, hown, hts⟩ (c_X10_canFill (l := l) (sz := H.size) (p0 := p2) (p1 := p3) (p2 := p4) h0 h5 hq5) (cwV 3 hts gX10_should_X10_canFill rfl rfl rfl (by decide +kernel) ⟨Nat.le_of_ble_eq_true rfl, Nat.le_of_ble_eq_true rfl⟩) (preV_of hK hP (by decide) h0 rfl) rfl rfl hl.1 rfl (lv_room (Nat.le_of_ble_eq_true rfl)) dX10_should_24 ⟨Nat.le_refl _, Nat.le_refl _⟩) hA hP hS (fun H locs hP hS hbz_q5 => ?_)
      refine lv_if_ne (tgt := 33) hx hb dX10_should_27 (by decide) (fun c6 => ?_) (fun c6 => ?_)
      · have hf := ie_e c6 hf
        refine lv_aload_n hx hb dX10_should_33 rfl (lv_at hl 0 rfl) ?_
        refine r_get (own := RX10) (T := TX10) (n := 9) (ci := 10) (v := .ref (ad 85)) hx hb hts nX10 hown hK hP (by decide) h0 rfl 8 (by decide) k0 rfl dX10_should_34 ?_
        refine lv_iload_n hx hb dX10_should_37 rfl (lv_at hl 2 rfl) ?_
        refine lv_iload_n hx hb dX10_should_38 rfl (lv_at hl 3 rfl) ?_
        refine lv_iload hx hb dX10_should_39 (lv_at hl 4 rfl) ?_
        refine lv_iload hx hb dX10_should_41 (lv_at hl 5 rfl) ?_
        refine lv_iconst (v := 1) hx hb dX10_should_43 (by decide) ?_
        obtain ⟨q7, hq7, hf⟩ := bd_e hf
        refine k_vW (va_runV (C := RX1) (As := [.int p1, .int p2, .int p3, .int p4, .int 1]) (rest := []) ⟨hx, hb, hml, hown, hts⟩ (c_X1_put (l := l) (sz := H.size) (p0 := p1) (p1 := p2) (p2 := p3) (p3 := p4) (p4 := 1) (b := 85) hI bz1 isFB_a hF_ hq7) (cwV 5 hts gX10_should_X1_put rfl rfl rfl (by decide +kernel) ⟨Nat.le_of_ble_eq_true rfl, Nat.le_of_ble_eq_true rfl⟩) (preV_of hK hP (isFB_0 isFB_a) (hF_ 85 isFB_a) rfl) rfl rfl hl.1 rfl (lv_room (Nat.le_of_ble_eq_true rfl)) dX10_should_44 ⟨Nat.le_refl _, Nat.le_refl _⟩) hA hAd hS (fun C H locs hP hS hpo => ?_)
        obtain ⟨he, hF_⟩ := hpo
        have hag : ∀ i : Nat, (i < 67 ∨ 76 < i) ∧ i ≠ 85 → C i = C0 i := fun i h => (he i (by omega)).trans (hag i h)
        have h0 := (he 0 (by decide)).trans h0
        have h5 := (he 5 (by decide)).trans h5
        have h15 := (he 15 (by decide)).trans h15
        have h16 := (he 16 (by decide)).trans h16
        have h21 := (he 21 (by decide)).trans h21
        have h22 := (he 22 (by decide)).trans h22
        have h23 := (he 23 (by decide)).trans h23
        have hS_ := hS_.ne (fun i h1 h2 => he i (by omega))
        refine lv_aload_n hx hb dX10_should_47 rfl (lv_at hl 0 rfl) ?_
        refine r_get (own := RX10) (T := TX10) (n := 9) (ci := 10) (v := .ref (ad 21)) hx hb hts nX10 hown hK hP (by decide) h0 rfl 3 (by decide) k2 rfl dX10_should_48 ?_
        refine lv_aload_n hx hb dX10_should_51 rfl (lv_at hl 0 rfl) ?_
        refine r_get (own := RX10) (T := TX10) (n := 9) (ci := 10) (v := .ref (ad 85)) hx hb hts nX10 hown hK hP (by decide) h0 rfl 8 (by decide) k0 rfl dX10_should_52 ?_
        refine lv_aload_n hx hb dX10_should_55 rfl (lv_at hl 0 rfl) ?_
        refine r_get (own := RX10) (T := TX10) (n := 9) (ci := 10) (v := .ref (ad 21)) hx hb hts nX10 hown hK hP (by decide) h0 rfl 3 (by decide) k2 rfl dX10_should_56 ?_
        refine r_getN (own := RX10) (T := TX8) (n := 4) (ci := 8) (v := .ref (ad 23)) hx hb hts nX8 hown hK hP (by decide) h21 rfl 3 (by decide) k3 rfl dX10_should_59 ?_
        refine lv_iload_n hx hb dX10_should_62 rfl (lv_at hl 1 rfl) ?_
        obtain ⟨i8, hf⟩ := ix_e hf
        refine r_aldS hx hb hK hP (by decide) h23 i8 dX10_should_63 ?_
        obtain ⟨j10, ej10⟩ : ∃ z : Nat, z = Int32.toNatClampNeg p0 := ⟨_, rfl⟩
        rw [← ej10] at hf ⊢
        have hbj10 : isSB (24 + 3 * j10) := isSB_i (by rw [ej10]; exact vp_lt i8)
        refine W.eq (g2 := F0 m 64 ls [.ref (ad (24 + 3 * j10)), .ref (ad 85), .ref (ad 21)]) rfl ?_
        refine lv_null hx hb dX10_should_64 ?_
        obtain ⟨q11, hq11, hf⟩ := bd_e hf
        refine k_iR (va_runV (C := RX8) (As := [.ref (ad 85), .ref (ad (24 + 3 * j10)), .null]) (rest := []) ⟨hx, hb, hml, hown, hts⟩ (c_X8_shouldSayYes (l := l) (sz := H.size) (p0 := 85) (p1 := (some (24 + 3 * j10))) (p2 := none) isFB_a (oS_s hbj10) oS_n h5 h15 h16 h21 h22 hF_ hS_ hq11) (cwV 3 hts gX10_should_X8_shouldSayYes rfl rfl rfl (by decide +kernel) ⟨Nat.le_of_ble_eq_true rfl, Nat.le_of_ble_eq_true rfl⟩) (preV_of hK hP (by decide) h21 rfl) rfl rfl hl.1 rfl (lv_room (Nat.le_of_ble_eq_true rfl)) dX10_should_65 ⟨Nat.le_refl _, Nat.le_refl _⟩) hA hP hS (fun H locs hP hS hbz_q11 => ?_)
        refine lv_if_eq (tgt := 75) hx hb dX10_should_68 (by decide) (fun c12 => ?_) (fun c12 => ?_)
        · have hf := it_e c12 hf
          refine lv_iconst (v := 0) hx hb dX10_should_75 (by decide) ?_
          obtain rfl := Option.some.inj hf
          rw [← hQ]
          exact e_iW hx hb hr rfl (tP_i _) hP hS ⟨hag, hF_⟩ hlocks dX10_should_76
        · have hf := ie_e c12 hf
          refine lv_iconst (v := 1) hx hb dX10_should_71 (by decide) ?_
          refine lv_goto (tgt := 76) hx hb dX10_should_72 (by decide) ?_
          obtain rfl := Option.some.inj hf
          rw [← hQ]
          exact e_iW hx hb hr rfl (tP_i _) hP hS ⟨hag, hF_⟩ hlocks dX10_should_76
      · have hf := it_e c6 hf
        refine lv_bipush (v := (-3)) hx hb dX10_should_30 (by decide) ?_
        obtain rfl := Option.some.inj hf
        rw [← hQ]
        exact e_iW hx hb hr rfl (tP_i _) hP hS ⟨hag, hF_⟩ hlocks dX10_should_32
    · have hf := it_e c4 hf
      refine lv_bipush (v := (-2)) hx hb dX10_should_15 (by decide) ?_
      obtain rfl := Option.some.inj hf
      rw [← hQ]
      exact e_iW hx hb hr rfl (tP_i _) hP hS ⟨hag, hF_⟩ hlocks dX10_should_17

def f_X10_found (p0 : Int32) (p1 : Int32) (p2 : Int32) (p3 : Int32) (p4 : Int32) (t_there : Int32) (th_k1 : Int32) (th_k2 : Int32) (th_size : Int32) (fC : Nat → Int32) (fS : Nat → Int32) (fM : Nat → Int32) (fT : Nat → Int32) (fY : Nat → Int32) : Option (Int32 × Int32 × Int32 × Int32 × (Nat → Int32) × (Nat → Int32) × (Nat → Int32) × (Nat → Int32) × (Nat → Int32)) :=
  (f_X10_isCup p0).bind fun q1 =>
  if q1 = 0 then
    some ((-2), th_k1, th_k2, th_size, fC, fS, fM, fT, fY)
  else
    (f_X10_canFill p1 p2 p3 t_there).bind fun q3 =>
    if q3 = 0 then
      some ((-3), th_k1, th_k2, th_size, fC, fS, fM, fT, fY)
    else
      if th_size < 10 then
        (f_X6_keep p0 p1 p2 p3 p4 th_k1 th_k2 th_size fC fS fM fT fY).bind fun q6 =>
        some (q6.1, q6.2.1, q6.2.2.1, q6.2.2.2.1, q6.2.2.2.2.1, q6.2.2.2.2.2.1, q6.2.2.2.2.2.2.1, q6.2.2.2.2.2.2.2.1, q6.2.2.2.2.2.2.2.2)
      else
        some ((-5), th_k1, th_k2, th_size, fC, fS, fM, fT, fY)
abbrev rmX10_found : Room := { frames := 2, cells := 0, slots := 0, locals := 50 }
set_option maxHeartbeats 4000000 in
set_option maxRecDepth 100000 in
theorem c_X10_found {l : Launch} {D : va_G} {g : Nat → ClassId} {ad : Nat → Nat} {C : Nat → va_E} {sz : Nat} {t_there : Int32} {t_lift : Int32} {t_none : Int32} {th_none : Int64} {th_all1 : Int64} {th_all2 : Int64} {th_k1 : Int32} {th_k2 : Int32} {th_size : Int32} {fC : Nat → Int32} {fS : Nat → Int32} {fM : Nat → Int32} {fT : Nat → Int32} {fY : Nat → Int32} {p0 : Int32} {p1 : Int32} {p2 : Int32} {p3 : Int32} {p4 : Int32} {rr : Int32 × Int32 × Int32 × Int32 × (Nat → Int32) × (Nat → Int32) × (Nat → Int32) × (Nat → Int32) × (Nat → Int32)} (hI : Inj 109 ad) (hbz_p4 : bz p4) (h0 : C 0 = .inr (10, [.ref (ad 1), .ref (ad 5), .ref (ad 19), .ref (ad 21), .ref (ad 60), .ref (ad 77), .ref (ad 81), .ref (ad 84), .ref (ad 85)])) (h5 : C 5 = .inr (7, [.ref (ad 6), .ref (ad 7), .ref (ad 8), .ref (ad 9), .ref (ad 10), .ref (ad 11), .ref (ad 12), .ref (ad 13), .ref (ad 14), .ref (ad 15), .ref (ad 16), .ref (ad 17), .ref (ad 18), .int t_there, .int t_lift, .int t_none])) (h60 : C 60 = .inr (6, [.ref (ad 5), .ref (ad 19), .ref (ad 21), .ref (ad 61), .ref (ad 62), .ref (ad 65), .ref (ad 66), .long th_none, .long th_all1, .long th_all2, .int th_k1, .int th_k2, .int th_size])) (h61 : C 61 = aF g 10 (fun i => some (ad (67 + i)))) (hF_ : PoolF C fC fS fM fT fY) (hf : f_X10_found p0 p1 p2 p3 p4 t_there th_k1 th_k2 th_size fC fS fM fT fY = some rr) : Met l yX10_found wsX10_found rmX10_found (PcW D g 109 ad C sz [.ref (ad 0), .int p0, .int p1, .int p2, .int p3, .int p4]) (QiW D 109 ad sz tP rr.1 (fun C' => (∀ i : Nat, i ≠ 60 ∧ (i < 67 ∨ 76 < i) ∧ i ≠ 85 → C' i = C i) ∧ (C' 60 = .inr (6, [.ref (ad 5), .ref (ad 19), .ref (ad 21), .ref (ad 61), .ref (ad 62), .ref (ad 65), .ref (ad 66), .long th_none, .long th_all1, .long th_all2, .int rr.2.1, .int rr.2.2.1, .int rr.2.2.2.1])) ∧ (PoolF C' rr.2.2.2.2.1 rr.2.2.2.2.2.1 rr.2.2.2.2.2.2.1 rr.2.2.2.2.2.2.2.1 rr.2.2.2.2.2.2.2.2))) 0 0 (Aw 109 ad sz) := by
  refine Met.ofW (cc := cX10_found) (maxL := 6) (ret := (some .int)) (by decide) rfl ?_
  intro p e s m args below meth c s₁ B hml hv
  obtain ⟨hav, hsz, hK, hP⟩ := hv
  subst hsz
  have hx := B.exec
  have hb := B.bytes
  have hr := B.returns
  have hts := atoms_spec (ws := wsX10_found) B.pre
  have hown : s.vm.findClass RX10 = some m.cls := findClass_of_methodNamed B.named
  have hlocks := B.notSynchronized
  generalize hQ : MQ below (QiW D 109 ad s.heap.size tP rr.1 (fun C' => (∀ i : Nat, i ≠ 60 ∧ (i < 67 ∨ 76 < i) ∧ i ≠ 85 → C' i = C i) ∧ (C' 60 = .inr (6, [.ref (ad 5), .ref (ad 19), .ref (ad 21), .ref (ad 61), .ref (ad 62), .ref (ad 65), .ref (ad 66), .long th_none, .long th_all1, .long th_all2, .int rr.2.1, .int rr.2.2.1, .int rr.2.2.2.1])) ∧ (PoolF C' rr.2.2.2.2.1 rr.2.2.2.2.2.1 rr.2.2.2.2.2.2.1 rr.2.2.2.2.2.2.2.1 rr.2.2.2.2.2.2.2.2))) args s 0 0 (Aw 109 ad s.heap.size) = QQ
  have hS : va_S (Aw 109 ad s.heap.size) s.heap s.heap [] := va_S.rf
  have hA : ∀ q, s.heap.size ≤ q → (Aw 109 ad s.heap.size) q := fun q h => Or.inr h
  have hAd : ∀ j : Nat, j < 109 → (Aw 109 ad s.heap.size) (ad j) := fun j h => Or.inl ⟨j, h, rfl⟩
  obtain ⟨C0, hC0⟩ : ∃ C0 : Nat → va_E, C0 = C := ⟨_, rfl⟩
  have hag : ∀ i : Nat, i ≠ 60 ∧ (i < 67 ∨ 76 < i) ∧ i ≠ 85 → C i = C0 i := fun i _ => by rw [hC0]
  rw [← hC0] at hQ
  have k0 := hts (.fieldLink RX10 46 "UpDrain" "thoughts" "LUpDrain$Thoughts;") (List.mem_of_getElem? (i := 1) rfl)
  have nX10 : ∀ w ∈ u_ws RX10 TX10 9, w ∈ wsX10_found := fun _ h => List.mem_cons_of_mem _ (List.mem_append_left _ (List.mem_append_left _ (List.mem_append_left _ (List.mem_append_right _ h))))
  have k2 := nf_69 (A := args) hK
  have nX6 : ∀ w ∈ u_ws RX6 TX6 13, w ∈ wsX10_found := fun _ h => List.mem_cons_of_mem _ (List.mem_append_left _ (List.mem_append_left _ (List.mem_append_right _ h)))
  have hE := lg_entry_eq m [.ref (ad 0), .int p0, .int p1, .int p2, .int p3, .int p4] 6
  rw [← hav] at hE
  rw [hE]
  have hl := lv_entry [.ref (ad 0), .int p0, .int p1, .int p2, .int p3, .int p4] (n := 6) (Nat.le_of_ble_eq_true rfl)
  generalize (lg_sl [.ref (ad 0), .int p0, .int p1, .int p2, .int p3, .int p4] ++ List.replicate (6 - (lg_sl [.ref (ad 0), .int p0, .int p1, .int p2, .int p3, .int p4]).length) Slot.unset).toArray = ls at hl ⊢
  have hl : lv_has ls 6 [(0, .ref (ad 0)), (1, .int p0), (2, .int p1), (3, .int p2), (4, .int p3), (5, .int p4)] := hl
  clear hE
  unfold f_X10_found at hf
  suffices hgo : ∀ (H : Heap) (locs : List Loc), va_P D vwCl (wd 109 ad C) H → va_S (Aw 109 ad s.heap.size) s.heap H locs → W p l e (headSpec wsX10_found rmX10_found).room s m args below meth c H locs 0 0 QQ (F0 m 0 ls []) from hgo s.heap [] hP hS
  clear hS hP
  intro H locs hP hS
  refine lv_iload_n hx hb dX10_found_0 rfl (lv_at hl 1 rfl) ?_
  obtain ⟨q1, hq1, hf⟩ := bd_e hf
  refine k_iR (va_runS (As := [.int p0]) (rest := []) ⟨hx, hb, hml, hown, hts⟩ (c_X10_isCup (l := l) (sz := H.size) (p0 := p0) hq1) (va_cwS 1 hts gX10_found_X10_isCup rfl rfl rfl (by decide +kernel) ⟨Nat.le_of_ble_eq_true rfl, Nat.le_of_ble_eq_true rfl⟩) preS0 rfl rfl hl.1 rfl (lv_room (Nat.le_of_ble_eq_true rfl)) dX10_found_1 ⟨Nat.le_refl _, Nat.le_refl _⟩) hA hP hS (fun H locs hP hS hbz_q1 => ?_)
  refine lv_if_ne (tgt := 10) hx hb dX10_found_4 (by decide) (fun c2 => ?_) (fun c2 => ?_)
  · have hf := ie_e c2 hf
    refine lv_aload_n hx hb dX10_found_10 rfl (lv_at hl 0 rfl) ?_
    refine lv_iload_n hx hb dX10_found_11 rfl (lv_at hl 2 rfl) ?_
    refine lv_iload_n hx hb dX10_found_12 rfl (lv_at hl 3 rfl) ?_
    refine lv_iload hx hb dX10_found_13 (lv_at hl 4 rfl) ?_
    obtain ⟨q3, hq3, hf⟩ := bd_e hf
    refine k_iR (va_runV (C := RX10) (As := [.int p1, .int p2, .int p3]) (rest := []) ⟨hx, hb, hml, hown, hts⟩ (c_X10_canFill (l := l) (sz := H.size) (p0 := p1) (p1 := p2) (p2 := p3) h0 h5 hq3) (cwV 3 hts gX10_found_X10_canFill rfl rfl rfl (by decide +kernel) ⟨Nat.le_of_ble_eq_true rfl, Nat.le_of_ble_eq_true rfl⟩) (preV_of hK hP (by decide) h0 rfl) rfl rfl hl.1 rfl (lv_room (Nat.le_of_ble_eq_true rfl)) dX10_found_15 ⟨Nat.le_refl _, Nat.le_refl _⟩) hA hP hS (fun H locs hP hS hbz_q3 => ?_)
    refine lv_if_ne (tgt := 24) hx hb dX10_found_18 (by decide) (fun c4 => ?_) (fun c4 => ?_)
    · have hf := ie_e c4 hf
      refine lv_aload_n hx hb dX10_found_24 rfl (lv_at hl 0 rfl) ?_
      refine r_get (own := RX10) (T := TX10) (n := 9) (ci := 10) (v := .ref (ad 60)) hx hb hts nX10 hown hK hP (by decide) h0 rfl 4 (by decide) k0 rfl dX10_found_25 ?_
      refine r_getN (own := RX10) (T := TX6) (n := 13) (ci := 6) (v := .int th_size) hx hb hts nX6 hown hK hP (by decide) h60 rfl 12 (by decide) k2 rfl dX10_found_28 ?_
      refine lv_bipush (v := 10) hx hb dX10_found_31 (by decide) ?_
      refine lv_icmp_lt (tgt := 39) hx hb dX10_found_33 (by decide) (fun c5 => ?_) (fun c5 => ?_)
      · have hf := it_e c5 hf
        refine lv_aload_n hx hb dX10_found_39 rfl (lv_at hl 0 rfl) ?_
        refine r_get (own := RX10) (T := TX10) (n := 9) (ci := 10) (v := .ref (ad 60)) hx hb hts nX10 hown hK hP (by decide) h0 rfl 4 (by decide) k0 rfl dX10_found_40 ?_
        refine lv_iload_n hx hb dX10_found_43 rfl (lv_at hl 1 rfl) ?_
        refine lv_iload_n hx hb dX10_found_44 rfl (lv_at hl 2 rfl) ?_
        refine lv_iload_n hx hb dX10_found_45 rfl (lv_at hl 3 rfl) ?_
        refine lv_iload hx hb dX10_found_46 (lv_at hl 4 rfl) ?_
        refine lv_iload hx hb dX10_found_48 (lv_at hl 5 rfl) ?_
        obtain ⟨q6, hq6, hf⟩ := bd_e hf
        refine k_iW (va_runV (C := RX6) (As := [.int p0, .int p1, .int p2, .int p3, .int p4]) (rest := []) ⟨hx, hb, hml, hown, hts⟩ (c_X6_keep (l := l) (sz := H.size) (p0 := p0) (p1 := p1) (p2 := p2) (p3 := p3) (p4 := p4) hI hbz_p4 h60 h61 hF_ hq6) (cwV 5 hts gX10_found_X6_keep rfl rfl rfl (by decide +kernel) ⟨Nat.le_of_ble_eq_true rfl, Nat.le_of_ble_eq_true rfl⟩) (preV_of hK hP (by decide) h60 rfl) rfl rfl hl.1 rfl (lv_room (Nat.le_of_ble_eq_true rfl)) dX10_found_50 ⟨Nat.le_refl _, Nat.le_refl _⟩) hA hAd hS (fun C H locs hP hS hpo hbz_q6 => ?_)
        obtain ⟨he, h60, hF_⟩ := hpo
        have hag : ∀ i : Nat, i ≠ 60 ∧ (i < 67 ∨ 76 < i) ∧ i ≠ 85 → C i = C0 i := fun i h => (he i (by omega)).trans (hag i h)
        have h0 := (he 0 (by decide)).trans h0
        have h5 := (he 5 (by decide)).trans h5
        have h61 := (he 61 (by decide)).trans h61
        obtain rfl := Option.some.inj hf
        rw [← hQ]
        exact e_iW hx hb hr rfl (tP_i _) hP hS ⟨hag, h60, hF_⟩ hlocks dX10_found_53
      · have hf := ie_e c5 hf
        refine lv_bipush (v := (-5)) hx hb dX10_found_36 (by decide) ?_
        obtain rfl := Option.some.inj hf
        rw [← hQ]
        exact e_iW hx hb hr rfl (tP_i _) hP hS ⟨hag, h60, hF_⟩ hlocks dX10_found_38
    · have hf := it_e c4 hf
      refine lv_bipush (v := (-3)) hx hb dX10_found_21 (by decide) ?_
      obtain rfl := Option.some.inj hf
      rw [← hQ]
      exact e_iW hx hb hr rfl (tP_i _) hP hS ⟨hag, h60, hF_⟩ hlocks dX10_found_23
  · have hf := it_e c2 hf
    refine lv_bipush (v := (-2)) hx hb dX10_found_7 (by decide) ?_
    obtain rfl := Option.some.inj hf
    rw [← hQ]
    exact e_iW hx hb hr rfl (tP_i _) hP hS ⟨hag, h60, hF_⟩ hlocks dX10_found_9

def f_X10_forget (th_k1 : Int32) (th_k2 : Int32) (th_size : Int32) : Option (Int32 × Int32 × Int32 × Int32) :=
  (f_X6_drop th_k1 th_k2 th_size).bind fun q1 =>
  some (q1.1, q1.2.1, q1.2.2.1, q1.2.2.2)
abbrev rmX10_forget : Room := { frames := 2, cells := 0, slots := 0, locals := 41 }
set_option maxHeartbeats 4000000 in
set_option maxRecDepth 100000 in
theorem c_X10_forget {l : Launch} {D : va_G} {g : Nat → ClassId} {ad : Nat → Nat} {C : Nat → va_E} {sz : Nat} {th_none : Int64} {th_all1 : Int64} {th_all2 : Int64} {th_k1 : Int32} {th_k2 : Int32} {th_size : Int32}  {rr : Int32 × Int32 × Int32 × Int32} (hI : Inj 109 ad) (h0 : C 0 = .inr (10, [.ref (ad 1), .ref (ad 5), .ref (ad 19), .ref (ad 21), .ref (ad 60), .ref (ad 77), .ref (ad 81), .ref (ad 84), .ref (ad 85)])) (h60 : C 60 = .inr (6, [.ref (ad 5), .ref (ad 19), .ref (ad 21), .ref (ad 61), .ref (ad 62), .ref (ad 65), .ref (ad 66), .long th_none, .long th_all1, .long th_all2, .int th_k1, .int th_k2, .int th_size])) (hf : f_X10_forget th_k1 th_k2 th_size = some rr) : Met l yX10_forget wsX10_forget rmX10_forget (PcW D g 109 ad C sz [.ref (ad 0)]) (QiW D 109 ad sz tP rr.1 (fun C' => (∀ i : Nat, i ≠ 60 → C' i = C i) ∧ (C' 60 = .inr (6, [.ref (ad 5), .ref (ad 19), .ref (ad 21), .ref (ad 61), .ref (ad 62), .ref (ad 65), .ref (ad 66), .long th_none, .long th_all1, .long th_all2, .int rr.2.1, .int rr.2.2.1, .int rr.2.2.2])))) 0 0 (Aw 109 ad sz) := by
  refine Met.ofW (cc := cX10_forget) (maxL := 1) (ret := (some .int)) (by decide) rfl ?_
  intro p e s m args below meth c s₁ B hml hv
  obtain ⟨hav, hsz, hK, hP⟩ := hv
  subst hsz
  have hx := B.exec
  have hb := B.bytes
  have hr := B.returns
  have hts := atoms_spec (ws := wsX10_forget) B.pre
  have hown : s.vm.findClass RX10 = some m.cls := findClass_of_methodNamed B.named
  have hlocks := B.notSynchronized
  generalize hQ : MQ below (QiW D 109 ad s.heap.size tP rr.1 (fun C' => (∀ i : Nat, i ≠ 60 → C' i = C i) ∧ (C' 60 = .inr (6, [.ref (ad 5), .ref (ad 19), .ref (ad 21), .ref (ad 61), .ref (ad 62), .ref (ad 65), .ref (ad 66), .long th_none, .long th_all1, .long th_all2, .int rr.2.1, .int rr.2.2.1, .int rr.2.2.2])))) args s 0 0 (Aw 109 ad s.heap.size) = QQ
  have hS : va_S (Aw 109 ad s.heap.size) s.heap s.heap [] := va_S.rf
  have hA : ∀ q, s.heap.size ≤ q → (Aw 109 ad s.heap.size) q := fun q h => Or.inr h
  have hAd : ∀ j : Nat, j < 109 → (Aw 109 ad s.heap.size) (ad j) := fun j h => Or.inl ⟨j, h, rfl⟩
  obtain ⟨C0, hC0⟩ : ∃ C0 : Nat → va_E, C0 = C := ⟨_, rfl⟩
  have hag : ∀ i : Nat, i ≠ 60 → C i = C0 i := fun i _ => by rw [hC0]
  rw [← hC0] at hQ
  have k0 := hts (.fieldLink RX10 46 "UpDrain" "thoughts" "LUpDrain$Thoughts;") (List.mem_of_getElem? (i := 1) rfl)
  have nX10 : ∀ w ∈ u_ws RX10 TX10 9, w ∈ wsX10_forget := fun _ h => List.mem_cons_of_mem _ (List.mem_append_left _ (List.mem_append_right _ h))
  have hE := lg_entry_eq m [.ref (ad 0)] 1
  rw [← hav] at hE
  rw [hE]
  have hl := lv_entry [.ref (ad 0)] (n := 1) (Nat.le_of_ble_eq_true rfl)
  generalize (lg_sl [.ref (ad 0)] ++ List.replicate (1 - (lg_sl [.ref (ad 0)]).length) Slot.unset).toArray = ls at hl ⊢
  have hl : lv_has ls 1 [(0, .ref (ad 0))] := hl
  clear hE
  unfold f_X10_forget at hf
  suffices hgo : ∀ (H : Heap) (locs : List Loc), va_P D vwCl (wd 109 ad C) H → va_S (Aw 109 ad s.heap.size) s.heap H locs → W p l e (headSpec wsX10_forget rmX10_forget).room s m args below meth c H locs 0 0 QQ (F0 m 0 ls []) from hgo s.heap [] hP hS
  clear hS hP
  intro H locs hP hS
  refine lv_aload_n hx hb dX10_forget_0 rfl (lv_at hl 0 rfl) ?_
  refine r_get (own := RX10) (T := TX10) (n := 9) (ci := 10) (v := .ref (ad 60)) hx hb hts nX10 hown hK hP (by decide) h0 rfl 4 (by decide) k0 rfl dX10_forget_1 ?_
  obtain ⟨q1, hq1, hf⟩ := bd_e hf
  refine k_iW (va_runV (C := RX6) (As := []) (rest := []) ⟨hx, hb, hml, hown, hts⟩ (c_X6_drop (l := l) (sz := H.size)  hI h60 hq1) (cwV 0 hts gX10_forget_X6_drop rfl rfl rfl (by decide +kernel) ⟨Nat.le_of_ble_eq_true rfl, Nat.le_of_ble_eq_true rfl⟩) (preV_of hK hP (by decide) h60 rfl) rfl rfl hl.1 rfl (lv_room (Nat.le_of_ble_eq_true rfl)) dX10_forget_4 ⟨Nat.le_refl _, Nat.le_refl _⟩) hA hAd hS (fun C H locs hP hS hpo hbz_q1 => ?_)
  obtain ⟨he, h60⟩ := hpo
  have hag : ∀ i : Nat, i ≠ 60 → C i = C0 i := fun i h => (he i (by omega)).trans (hag i h)
  have h0 := (he 0 (by decide)).trans h0
  obtain rfl := Option.some.inj hf
  rw [← hQ]
  exact e_iW hx hb hr rfl (tP_i _) hP hS ⟨hag, h60⟩ hlocks dX10_forget_7

def f_X10_isSource (p0 : Int32) (t_there : Int32) (w_src : Int32) : Option (Int32) :=
  (f_X10_isThere p0 t_there).bind fun q1 =>
  if q1 = 0 then
    some (0)
  else
    (f_X10_has w_src p0).bind fun q3 =>
    if q3 = 0 then
      some (0)
    else
      some (1)
abbrev rmX10_isSource : Room := { frames := 2, cells := 0, slots := 0, locals := 42 }
set_option maxHeartbeats 4000000 in
set_option maxRecDepth 100000 in
theorem c_X10_isSource {l : Launch} {D : va_G} {g : Nat → ClassId} {ad : Nat → Nat} {C : Nat → va_E} {sz : Nat} {t_there : Int32} {t_lift : Int32} {t_none : Int32} {w_src : Int32} {p0 : Int32} {rr : Int32} (h0 : C 0 = .inr (10, [.ref (ad 1), .ref (ad 5), .ref (ad 19), .ref (ad 21), .ref (ad 60), .ref (ad 77), .ref (ad 81), .ref (ad 84), .ref (ad 85)])) (h5 : C 5 = .inr (7, [.ref (ad 6), .ref (ad 7), .ref (ad 8), .ref (ad 9), .ref (ad 10), .ref (ad 11), .ref (ad 12), .ref (ad 13), .ref (ad 14), .ref (ad 15), .ref (ad 16), .ref (ad 17), .ref (ad 18), .int t_there, .int t_lift, .int t_none])) (h19 : C 19 = .inr (9, [.ref (ad 5), .ref (ad 20), .int w_src])) (hf : f_X10_isSource p0 t_there w_src = some rr) : Met l yX10_isSource wsX10_isSource rmX10_isSource (PcW D g 109 ad C sz [.ref (ad 0), .int p0]) (QiR sz bz rr) 0 0 (An sz) := by
  refine Met.ofW (cc := cX10_isSource) (maxL := 2) (ret := (some .boolean)) (by decide) rfl ?_
  intro p e s m args below meth c s₁ B hml hv
  obtain ⟨hav, hsz, hK, hP⟩ := hv
  subst hsz
  have hx := B.exec
  have hb := B.bytes
  have hr := B.returns
  have hts := atoms_spec (ws := wsX10_isSource) B.pre
  have hown : s.vm.findClass RX10 = some m.cls := findClass_of_methodNamed B.named
  have hlocks := B.notSynchronized
  generalize hQ : MQ below (QiR s.heap.size bz rr) args s 0 0 (An s.heap.size) = QQ
  have hS : va_S (An s.heap.size) s.heap s.heap [] := va_S.rf
  have hA : ∀ q, s.heap.size ≤ q → (An s.heap.size) q := fun q h => h
  have k0 := hts (.fieldLink RX10 28 "UpDrain" "ways" "LUpDrain$Ways;") (List.mem_of_getElem? (i := 1) rfl)
  have nX10 : ∀ w ∈ u_ws RX10 TX10 9, w ∈ wsX10_isSource := fun _ h => List.mem_cons_of_mem _ (List.mem_append_left _ (List.mem_append_left _ (List.mem_append_right _ h)))
  have k2 := nf_55 (A := args) hK
  have nX9 : ∀ w ∈ u_ws RX9 TX9 3, w ∈ wsX10_isSource := fun _ h => List.mem_cons_of_mem _ (List.mem_append_left _ (List.mem_append_right _ h))
  have hE := lg_entry_eq m [.ref (ad 0), .int p0] 2
  rw [← hav] at hE
  rw [hE]
  have hl := lv_entry [.ref (ad 0), .int p0] (n := 2) (Nat.le_of_ble_eq_true rfl)
  generalize (lg_sl [.ref (ad 0), .int p0] ++ List.replicate (2 - (lg_sl [.ref (ad 0), .int p0]).length) Slot.unset).toArray = ls at hl ⊢
  have hl : lv_has ls 2 [(0, .ref (ad 0)), (1, .int p0)] := hl
  clear hE
  unfold f_X10_isSource at hf
  suffices hgo : ∀ (H : Heap) (locs : List Loc), va_P D vwCl (wd 109 ad C) H → va_S (An s.heap.size) s.heap H locs → W p l e (headSpec wsX10_isSource rmX10_isSource).room s m args below meth c H locs 0 0 QQ (F0 m 0 ls []) from hgo s.heap [] hP hS
  clear hS hP
  intro H locs hP hS
  refine lv_aload_n hx hb dX10_isSource_0 rfl (lv_at hl 0 rfl) ?_
  refine lv_iload_n hx hb dX10_isSource_1 rfl (lv_at hl 1 rfl) ?_
  obtain ⟨q1, hq1, hf⟩ := bd_e hf
  refine k_iR (va_runV (C := RX10) (As := [.int p0]) (rest := []) ⟨hx, hb, hml, hown, hts⟩ (c_X10_isThere (l := l) (sz := H.size) (p0 := p0) h0 h5 hq1) (cwV 1 hts gX10_isSource_X10_isThere rfl rfl rfl (by decide +kernel) ⟨Nat.le_of_ble_eq_true rfl, Nat.le_of_ble_eq_true rfl⟩) (preV_of hK hP (by decide) h0 rfl) rfl rfl hl.1 rfl (lv_room (Nat.le_of_ble_eq_true rfl)) dX10_isSource_2 ⟨Nat.le_refl _, Nat.le_refl _⟩) hA hP hS (fun H locs hP hS hbz_q1 => ?_)
  refine lv_if_eq (tgt := 26) hx hb dX10_isSource_5 (by decide) (fun c2 => ?_) (fun c2 => ?_)
  · have hf := it_e c2 hf
    refine lv_iconst (v := 0) hx hb dX10_isSource_26 (by decide) ?_
    obtain rfl := Option.some.inj hf
    rw [← hQ]
    exact e_zR hx hb hr rfl bz0 hS hlocks dX10_isSource_27
  · have hf := ie_e c2 hf
    refine lv_aload_n hx hb dX10_isSource_8 rfl (lv_at hl 0 rfl) ?_
    refine r_get (own := RX10) (T := TX10) (n := 9) (ci := 10) (v := .ref (ad 19)) hx hb hts nX10 hown hK hP (by decide) h0 rfl 2 (by decide) k0 rfl dX10_isSource_9 ?_
    refine r_getN (own := RX10) (T := TX9) (n := 3) (ci := 9) (v := .int w_src) hx hb hts nX9 hown hK hP (by decide) h19 rfl 2 (by decide) k2 rfl dX10_isSource_12 ?_
    refine lv_iload_n hx hb dX10_isSource_15 rfl (lv_at hl 1 rfl) ?_
    obtain ⟨q3, hq3, hf⟩ := bd_e hf
    refine k_iR (va_runS (As := [.int w_src, .int p0]) (rest := []) ⟨hx, hb, hml, hown, hts⟩ (c_X10_has (l := l) (sz := H.size) (p0 := w_src) (p1 := p0) hq3) (va_cwS 2 hts gX10_isSource_X10_has rfl rfl rfl (by decide +kernel) ⟨Nat.le_of_ble_eq_true rfl, Nat.le_of_ble_eq_true rfl⟩) preS0 rfl rfl hl.1 rfl (lv_room (Nat.le_of_ble_eq_true rfl)) dX10_isSource_16 ⟨Nat.le_refl _, Nat.le_refl _⟩) hA hP hS (fun H locs hP hS hbz_q3 => ?_)
    refine lv_if_eq (tgt := 26) hx hb dX10_isSource_19 (by decide) (fun c4 => ?_) (fun c4 => ?_)
    · have hf := it_e c4 hf
      refine lv_iconst (v := 0) hx hb dX10_isSource_26 (by decide) ?_
      obtain rfl := Option.some.inj hf
      rw [← hQ]
      exact e_zR hx hb hr rfl bz0 hS hlocks dX10_isSource_27
    · have hf := ie_e c4 hf
      refine lv_iconst (v := 1) hx hb dX10_isSource_22 (by decide) ?_
      refine lv_goto (tgt := 27) hx hb dX10_isSource_23 (by decide) ?_
      obtain rfl := Option.some.inj hf
      rw [← hQ]
      exact e_zR hx hb hr rfl bz1 hS hlocks dX10_isSource_27

def LX10_lowest_9  (ko : Int64 → Int64 → Int32 → Option (Int64)) : Nat → Int64 → Int64 → Int32 → Option (Int64)
  | 0, _, _, _ => none
  | n + 1, x1, x2, x3 =>
    if 200 ≤ x3 then
      ko x1 x2 x3
    else
      if (lg_cmp x2 (0 : Int64)) = 0 then
        ko x1 x2 x3
      else
        nzl (x2) <|
        lt ((x1 - x1 / x2 * x2) : Int64) fun x10 =>
        lt (x3 + 1 : Int32) fun x11 =>
        LX10_lowest_9 ko n x2 x10 x11
theorem LX10_lowest_9_z  (ko : Int64 → Int64 → Int32 → Option (Int64)) (x1 : Int64) (x2 : Int64) (x3 : Int32) : LX10_lowest_9  ko 0 x1 x2 x3 = none := rfl
theorem LX10_lowest_9_s  (ko : Int64 → Int64 → Int32 → Option (Int64)) (n : Nat) (x1 : Int64) (x2 : Int64) (x3 : Int32) : LX10_lowest_9  ko (n + 1) x1 x2 x3 =
    if 200 ≤ x3 then
      ko x1 x2 x3
    else
      if (lg_cmp x2 (0 : Int64)) = 0 then
        ko x1 x2 x3
      else
        nzl (x2) <|
        lt ((x1 - x1 / x2 * x2) : Int64) fun x10 =>
        lt (x3 + 1 : Int32) fun x11 =>
        LX10_lowest_9 ko n x2 x10 x11 := rfl
def f_X10_lowest (p0 : Int64) (p1 : Int64) (p2 : Int32) : Option (Int64) :=
  LX10_lowest_9  (fun x4 x5 x6 =>
    if (lg_cmp x4 (0 : Int64)) = 0 then
      some ((0 : Int64))
    else
      (if p2 = 0 then
        some (p0)
      else
        some (p1) : Option (Int64)).bind fun q13 =>
      nzl (x4) <|
      some ((q13 / x4))) FU p0 p1 0
abbrev rmX10_lowest : Room := { frames := 0, cells := 0, slots := 0, locals := 0 }
set_option maxHeartbeats 4000000 in
set_option maxRecDepth 100000 in
theorem c_X10_lowest {l : Launch} {sz : Nat}  {p0 : Int64} {p1 : Int64} {p2 : Int32} {rr : Int64} (hf : f_X10_lowest p0 p1 p2 = some rr) : Met l yX10_lowest wsX10_lowest rmX10_lowest (PcS sz [.long p0, .long p1, .int p2]) (QlR sz rr) 0 0 (An sz) := by
  refine Met.ofW (cc := cX10_lowest) (maxL := 12) (ret := (some .long)) (by decide) rfl ?_
  intro p e s m args below meth c s₁ B hml hv
  obtain ⟨hav, hsz⟩ := hv
  subst hsz
  have hx := B.exec
  have hb := B.bytes
  have hr := B.returns
  have hts := atoms_spec (ws := wsX10_lowest) B.pre
  have hown : s.vm.findClass RX10 = some m.cls := findClass_of_methodNamed B.named
  have hlocks := B.notSynchronized
  generalize hQ : MQ below (QlR s.heap.size rr) args s 0 0 (An s.heap.size) = QQ
  have hS : va_S (An s.heap.size) s.heap s.heap [] := va_S.rf
  have hA : ∀ q, s.heap.size ≤ q → (An s.heap.size) q := fun q h => h
  have hE := lg_entry_eq m [.long p0, .long p1, .int p2] 12
  rw [← hav] at hE
  rw [hE]
  have hl := lv_entry [.long p0, .long p1, .int p2] (n := 12) (Nat.le_of_ble_eq_true rfl)
  generalize (lg_sl [.long p0, .long p1, .int p2] ++ List.replicate (12 - (lg_sl [.long p0, .long p1, .int p2]).length) Slot.unset).toArray = ls at hl ⊢
  have hl : lv_has ls 12 [(0, .long p0), (2, .long p1), (4, .int p2)] := hl
  clear hE
  unfold f_X10_lowest at hf
  suffices hgo : ∀ (H : Heap) (locs : List Loc), va_S (An s.heap.size) s.heap H locs → W p l e (headSpec wsX10_lowest rmX10_lowest).room s m args below meth c H locs 0 0 QQ (F0 m 0 ls []) from hgo s.heap [] hS
  clear hS
  intro H locs hS
  refine lv_lload_n hx hb dX10_lowest_0 rfl (lv_at hl 0 rfl) ?_
  refine lv_lstore (lv' := [(5, .long p0), (0, .long p0), (2, .long p1), (4, .int p2)]) hx hb dX10_lowest_1 hl (by decide) rfl (fun ls hl => ?_)
  refine lv_lload_n hx hb dX10_lowest_3 rfl (lv_at hl 2 rfl) ?_
  refine lv_lstore (lv' := [(7, .long p1), (5, .long p0), (0, .long p0), (2, .long p1), (4, .int p2)]) hx hb dX10_lowest_4 hl (by decide) rfl (fun ls hl => ?_)
  refine lv_iconst (v := 0) hx hb dX10_lowest_6 (by decide) ?_
  refine lv_istore (lv' := [(9, .int 0), (7, .long p1), (5, .long p0), (0, .long p0), (2, .long p1), (4, .int p2)]) hx hb dX10_lowest_7 hl (by decide) rfl (fun ls hl => ?_)
  have key9 : ∀ (ko : Int64 → Int64 → Int32 → Option (Int64)), (∀ (x4 : Int64) (x5 : Int64) (x6 : Int32) (H : Heap) (locs : List Loc) (ls : Array Slot), va_S (An s.heap.size) s.heap H locs → lv_has ls 12 [(0, .long p0), (2, .long p1), (4, .int p2), (5, .long x4), (7, .long x5), (9, .int x6)] → ko x4 x5 x6 = some rr → W p l e (headSpec wsX10_lowest rmX10_lowest).room s m args below meth c H locs 0 0 QQ (F0 m 45 ls [])) → ∀ (n : Nat) (x1 : Int64) (x2 : Int64) (x3 : Int32) (H : Heap) (locs : List Loc) (ls : Array Slot), va_S (An s.heap.size) s.heap H locs → lv_has ls 12 [(0, .long p0), (2, .long p1), (4, .int p2), (5, .long x1), (7, .long x2), (9, .int x3)] → LX10_lowest_9  ko n x1 x2 x3 = some rr → W p l e (headSpec wsX10_lowest rmX10_lowest).room s m args below meth c H locs 0 0 QQ (F0 m 9 ls []) := by
    intro ko hko n
    induction n with
    | zero =>
      intro x1 x2 x3 H locs ls hS hl hf
      rw [LX10_lowest_9_z] at hf
      cases hf
    | succ n ih =>
      intro x1 x2 x3 H locs ls hS hl hf
      rw [LX10_lowest_9_s] at hf
      refine lv_iload hx hb dX10_lowest_9 (lv_at hl 5 rfl) ?_
      refine lv_sipush (v := 200) hx hb dX10_lowest_11 (by decide) ?_
      refine lv_icmp_ge (tgt := 45) hx hb dX10_lowest_14 (by decide) (fun c7 => ?_) (fun c7 => ?_)
      · have hf := it_e c7 hf
        exact hko x1 x2 x3 H locs ls hS (lv_sub hl [0, 1, 2, 3, 4, 5] rfl) hf
      · have hf := ie_e c7 hf
        refine lv_lload hx hb dX10_lowest_17 (lv_at hl 4 rfl) ?_
        refine lv_lconst (v := 0) hx hb dX10_lowest_19 (by decide) ?_
        refine W.lcmp hx hb dX10_lowest_20 ?_
        refine lv_if_eq (tgt := 45) hx hb dX10_lowest_21 (by decide) (fun c8 => ?_) (fun c8 => ?_)
        · have hf := it_e c8 hf
          exact hko x1 x2 x3 H locs ls hS (lv_sub hl [0, 1, 2, 3, 4, 5] rfl) hf
        · have hf := ie_e c8 hf
          refine lv_lload hx hb dX10_lowest_24 (lv_at hl 3 rfl) ?_
          refine lv_lload hx hb dX10_lowest_26 (lv_at hl 4 rfl) ?_
          obtain ⟨z9, hf⟩ := nzl_e hf
          refine lv_lrem hx hb dX10_lowest_28 z9 ?_
          obtain ⟨x10, ex10, hf⟩ := lt_e hf
          refine tp_l ex10 ?_
          refine lv_lstore (lv' := [(10, .long x10), (0, .long p0), (2, .long p1), (4, .int p2), (5, .long x1), (7, .long x2), (9, .int x3)]) hx hb dX10_lowest_29 hl (by decide) rfl (fun ls hl => ?_)
          refine lv_lload hx hb dX10_lowest_31 (lv_at hl 5 rfl) ?_
          refine lv_lstore (lv' := [(5, .long x2), (10, .long x10), (0, .long p0), (2, .long p1), (4, .int p2), (7, .long x2), (9, .int x3)]) hx hb dX10_lowest_33 hl (by decide) rfl (fun ls hl => ?_)
          refine lv_lload hx hb dX10_lowest_35 (lv_at hl 1 rfl) ?_
          refine lv_lstore (lv' := [(7, .long x10), (5, .long x2), (10, .long x10), (0, .long p0), (2, .long p1), (4, .int p2), (9, .int x3)]) hx hb dX10_lowest_37 hl (by decide) rfl (fun ls hl => ?_)
          obtain ⟨x11, ex11, hf⟩ := lt_e hf
          refine lv_iinc (v := x11) (lv' := [(9, .int x11), (7, .long x10), (5, .long x2), (10, .long x10), (0, .long p0), (2, .long p1), (4, .int p2)]) hx hb dX10_lowest_39 hl (k := 6) rfl (by rw [ex11]; rfl) (by decide) rfl (fun ls hl => ?_)
          refine lv_goto (tgt := 9) hx hb dX10_lowest_42 (by decide) ?_
          exact ih x2 x10 x11 H locs ls hS (lv_sub hl [4, 5, 6, 2, 1, 0] rfl) hf
  refine key9 _ (fun x4 x5 x6 H locs ls hS hl hf => ?_) FU p0 p1 0 H locs ls hS (lv_sub hl [3, 4, 5, 2, 1, 0] rfl) hf
  refine lv_lload hx hb dX10_lowest_45 (lv_at hl 3 rfl) ?_
  refine lv_lconst (v := 0) hx hb dX10_lowest_47 (by decide) ?_
  refine W.lcmp hx hb dX10_lowest_48 ?_
  refine lv_if_ne (tgt := 54) hx hb dX10_lowest_49 (by decide) (fun c12 => ?_) (fun c12 => ?_)
  · have hf := ie_e c12 hf
    refine lv_iload hx hb dX10_lowest_54 (lv_at hl 2 rfl) ?_
    obtain ⟨q13, htq13, hf⟩ := bd_e hf
    have jnq13 : ∀ (H : Heap) (locs : List Loc) (ls : Array Slot), va_S (An s.heap.size) s.heap H locs → lv_has ls 12 [(0, .long p0), (2, .long p1), (4, .int p2), (5, .long x4), (7, .long x5), (9, .int x6)] → W p l e (headSpec wsX10_lowest rmX10_lowest).room s m args below meth c H locs 0 0 QQ (F0 m 64 ls [.long q13]) := by
      intro H locs ls hS hl
      refine lv_lload hx hb dX10_lowest_64 (lv_at hl 3 rfl) ?_
      obtain ⟨z14, hf⟩ := nzl_e hf
      refine lv_ldiv hx hb dX10_lowest_66 z14 ?_
      obtain rfl := Option.some.inj hf
      rw [← hQ]
      exact e_lR hx hb hr rfl hS hlocks dX10_lowest_67
    clear hf
    have hf := htq13
    refine lv_if_ne (tgt := 63) hx hb dX10_lowest_56 (by decide) (fun c15 => ?_) (fun c15 => ?_)
    · have hf := ie_e c15 hf
      refine lv_lload_n hx hb dX10_lowest_63 rfl (lv_at hl 1 rfl) ?_
      obtain rfl := Option.some.inj hf
      exact jnq13 H locs ls hS (lv_sub hl [0, 1, 2, 3, 4, 5] rfl)
    · have hf := it_e c15 hf
      refine lv_lload_n hx hb dX10_lowest_59 rfl (lv_at hl 0 rfl) ?_
      refine lv_goto (tgt := 64) hx hb dX10_lowest_60 (by decide) ?_
      obtain rfl := Option.some.inj hf
      exact jnq13 H locs ls hS (lv_sub hl [0, 1, 2, 3, 4, 5] rfl)
  · have hf := it_e c12 hf
    refine lv_lconst (v := 0) hx hb dX10_lowest_52 (by decide) ?_
    obtain rfl := Option.some.inj hf
    rw [← hQ]
    exact e_lR hx hb hr rfl hS hlocks dX10_lowest_53

def f_X10_chance (p0 : Int32) (p1 : Int32) (t_lik : Nat → Int32) (t_rain : Nat → Int32) (t_tell : Nat → Int32) (t_wy : Nat → Int32) (t_wn : Nat → Int32) (t_there : Int32) (t_none : Int32) (w_src : Int32) (wa_g : Nat → Int32) (th_none : Int64) (th_all1 : Int64) (th_k1 : Int32) (th_size : Int32) (th_one : Nat → Int64) (sL : Nat → Nat → Int32) (sT : Nat → Nat → Int32) (sF : Nat → Int32) (sU : Nat → Int32) (fC : Nat → Int32) (fS : Nat → Int32) (fM : Nat → Int32) (fT : Nat → Int32) (fY : Nat → Int32) : Option (Int64 × Int64 × Int64 × Int32 × (Nat → Int64)) :=
  if p0 = (-1) then
    (f_X10_isPart p1).bind fun q2 =>
    if q2 = 0 then
      some ((-3 : Int64), th_none, th_all1, th_k1, th_one)
    else
      (f_X6_thinkOfOne t_lik t_rain t_tell t_wy t_wn t_none w_src wa_g th_none th_all1 th_k1 th_size th_one sL sT sF sU fC fS fM fT fY).bind fun q4 =>
      if (lg_cmp q4.2.1 (0 : Int64)) = 0 then
        some ((-4 : Int64), q4.1, q4.2.1, q4.2.2.1, q4.2.2.2)
      else
        (if p0 = (-1) then
          some (q4.1)
        else
          rl q4.2.2.2 12 (p0) fun x9 =>
          some (x9) : Option (Int64)).bind fun q6 =>
        (f_X10_lowest q6 q4.2.1 p1).bind fun q7 =>
        some (q7, q4.1, q4.2.1, q4.2.2.1, q4.2.2.2)
  else
    (f_X10_isSource p0 t_there w_src).bind fun q11 =>
    if q11 = 0 then
      some ((-2 : Int64), th_none, th_all1, th_k1, th_one)
    else
      (f_X10_isPart p1).bind fun q13 =>
      if q13 = 0 then
        some ((-3 : Int64), th_none, th_all1, th_k1, th_one)
      else
        (f_X6_thinkOfOne t_lik t_rain t_tell t_wy t_wn t_none w_src wa_g th_none th_all1 th_k1 th_size th_one sL sT sF sU fC fS fM fT fY).bind fun q15 =>
        if (lg_cmp q15.2.1 (0 : Int64)) = 0 then
          some ((-4 : Int64), q15.1, q15.2.1, q15.2.2.1, q15.2.2.2)
        else
          (if p0 = (-1) then
            some (q15.1)
          else
            rl q15.2.2.2 12 (p0) fun x20 =>
            some (x20) : Option (Int64)).bind fun q17 =>
          (f_X10_lowest q17 q15.2.1 p1).bind fun q18 =>
          some (q18, q15.1, q15.2.1, q15.2.2.1, q15.2.2.2)
abbrev rmX10_chance : Room := { frames := 6, cells := 0, slots := 0, locals := 149 }
set_option maxHeartbeats 4000000 in
set_option maxRecDepth 100000 in
theorem c_X10_chance {l : Launch} {D : va_G} {g : Nat → ClassId} {ad : Nat → Nat} {C : Nat → va_E} {sz : Nat} {t_there : Int32} {t_lift : Int32} {t_none : Int32} {t_lik : Nat → Int32} {t_rain : Nat → Int32} {t_tell : Nat → Int32} {t_wy : Nat → Int32} {t_wn : Nat → Int32} {w_src : Int32} {wa_g : Nat → Int32} {th_none : Int64} {th_all1 : Int64} {th_all2 : Int64} {th_k1 : Int32} {th_k2 : Int32} {th_size : Int32} {th_one : Nat → Int64} {fC : Nat → Int32} {fS : Nat → Int32} {fM : Nat → Int32} {fT : Nat → Int32} {fY : Nat → Int32} {sL : Nat → Nat → Int32} {sT : Nat → Nat → Int32} {sF : Nat → Int32} {sU : Nat → Int32} {p0 : Int32} {p1 : Int32} {rr : Int64 × Int64 × Int64 × Int32 × (Nat → Int64)} (hI : Inj 109 ad) (h0 : C 0 = .inr (10, [.ref (ad 1), .ref (ad 5), .ref (ad 19), .ref (ad 21), .ref (ad 60), .ref (ad 77), .ref (ad 81), .ref (ad 84), .ref (ad 85)])) (h5 : C 5 = .inr (7, [.ref (ad 6), .ref (ad 7), .ref (ad 8), .ref (ad 9), .ref (ad 10), .ref (ad 11), .ref (ad 12), .ref (ad 13), .ref (ad 14), .ref (ad 15), .ref (ad 16), .ref (ad 17), .ref (ad 18), .int t_there, .int t_lift, .int t_none])) (h11 : C 11 = aI g 12 t_lik) (h15 : C 15 = aI g 24 t_rain) (h16 : C 16 = aI g 4 t_tell) (h17 : C 17 = aI g 4 t_wy) (h18 : C 18 = aI g 4 t_wn) (h19 : C 19 = .inr (9, [.ref (ad 5), .ref (ad 20), .int w_src])) (h21 : C 21 = .inr (8, [.ref (ad 5), .ref (ad 19), .ref (ad 22), .ref (ad 23)])) (h22 : C 22 = aI g 12 wa_g) (h23 : C 23 = aS g 12 (fun i => some (ad (24 + 3 * i)))) (h60 : C 60 = .inr (6, [.ref (ad 5), .ref (ad 19), .ref (ad 21), .ref (ad 61), .ref (ad 62), .ref (ad 65), .ref (ad 66), .long th_none, .long th_all1, .long th_all2, .int th_k1, .int th_k2, .int th_size])) (h61 : C 61 = aF g 10 (fun i => some (ad (67 + i)))) (h65 : C 65 = aL g 12 th_one) (hF_ : PoolF C fC fS fM fT fY) (hS_ : PoolS g ad C sL sT sF sU) (hf : f_X10_chance p0 p1 t_lik t_rain t_tell t_wy t_wn t_there t_none w_src wa_g th_none th_all1 th_k1 th_size th_one sL sT sF sU fC fS fM fT fY = some rr) : Met l yX10_chance wsX10_chance rmX10_chance (PcW D g 109 ad C sz [.ref (ad 0), .int p0, .int p1]) (QlW D 109 ad sz rr.1 (fun C' => (∀ i : Nat, i ≠ 60 ∧ i ≠ 65 → C' i = C i) ∧ (C' 60 = .inr (6, [.ref (ad 5), .ref (ad 19), .ref (ad 21), .ref (ad 61), .ref (ad 62), .ref (ad 65), .ref (ad 66), .long rr.2.1, .long rr.2.2.1, .long th_all2, .int rr.2.2.2.1, .int th_k2, .int th_size])) ∧ (C' 65 = aL g 12 rr.2.2.2.2))) 0 0 (Aw 109 ad sz) := by
  refine Met.ofW (cc := cX10_chance) (maxL := 5) (ret := (some .long)) (by decide) rfl ?_
  intro p e s m args below meth c s₁ B hml hv
  obtain ⟨hav, hsz, hK, hP⟩ := hv
  subst hsz
  have hx := B.exec
  have hb := B.bytes
  have hr := B.returns
  have hts := atoms_spec (ws := wsX10_chance) B.pre
  have hown : s.vm.findClass RX10 = some m.cls := findClass_of_methodNamed B.named
  have hlocks := B.notSynchronized
  generalize hQ : MQ below (QlW D 109 ad s.heap.size rr.1 (fun C' => (∀ i : Nat, i ≠ 60 ∧ i ≠ 65 → C' i = C i) ∧ (C' 60 = .inr (6, [.ref (ad 5), .ref (ad 19), .ref (ad 21), .ref (ad 61), .ref (ad 62), .ref (ad 65), .ref (ad 66), .long rr.2.1, .long rr.2.2.1, .long th_all2, .int rr.2.2.2.1, .int th_k2, .int th_size])) ∧ (C' 65 = aL g 12 rr.2.2.2.2))) args s 0 0 (Aw 109 ad s.heap.size) = QQ
  have hS : va_S (Aw 109 ad s.heap.size) s.heap s.heap [] := va_S.rf
  have hA : ∀ q, s.heap.size ≤ q → (Aw 109 ad s.heap.size) q := fun q h => Or.inr h
  have hAd : ∀ j : Nat, j < 109 → (Aw 109 ad s.heap.size) (ad j) := fun j h => Or.inl ⟨j, h, rfl⟩
  obtain ⟨C0, hC0⟩ : ∃ C0 : Nat → va_E, C0 = C := ⟨_, rfl⟩
  have hag : ∀ i : Nat, i ≠ 60 ∧ i ≠ 65 → C i = C0 i := fun i _ => by rw [hC0]
  rw [← hC0] at hQ
  have k0 := hts (.fieldLink RX10 46 "UpDrain" "thoughts" "LUpDrain$Thoughts;") (List.mem_of_getElem? (i := 3) rfl)
  have nX10 : ∀ w ∈ u_ws RX10 TX10 9, w ∈ wsX10_chance := fun _ h => List.mem_cons_of_mem _ (List.mem_append_left _ (List.mem_append_left _ (List.mem_append_left _ (List.mem_append_left _ (List.mem_append_left _ (List.mem_append_left _ (List.mem_append_right _ h)))))))
  have k2 := nf_67 (A := args) hK
  have nX6 : ∀ w ∈ u_ws RX6 TX6 13, w ∈ wsX10_chance := fun _ h => List.mem_cons_of_mem _ (List.mem_append_left _ (List.mem_append_left _ (List.mem_append_left _ (List.mem_append_left _ (List.mem_append_left _ (List.mem_append_right _ h))))))
  have k4 := nf_64 (A := args) hK
  have k5 := nf_66 (A := args) hK
  have k6 := hts (.constantLong RX10 220 (-4)) (List.mem_of_getElem? (i := 4) rfl)
  have k7 := hts (.constantLong RX10 211 (-3)) (List.mem_of_getElem? (i := 2) rfl)
  have k8 := hts (.constantLong RX10 209 (-2)) (List.mem_of_getElem? (i := 1) rfl)
  have hE := lg_entry_eq m [.ref (ad 0), .int p0, .int p1] 5
  rw [← hav] at hE
  rw [hE]
  have hl := lv_entry [.ref (ad 0), .int p0, .int p1] (n := 5) (Nat.le_of_ble_eq_true rfl)
  generalize (lg_sl [.ref (ad 0), .int p0, .int p1] ++ List.replicate (5 - (lg_sl [.ref (ad 0), .int p0, .int p1]).length) Slot.unset).toArray = ls at hl ⊢
  have hl : lv_has ls 5 [(0, .ref (ad 0)), (1, .int p0), (2, .int p1)] := hl
  clear hE
  unfold f_X10_chance at hf
  suffices hgo : ∀ (H : Heap) (locs : List Loc), va_P D vwCl (wd 109 ad C) H → va_S (Aw 109 ad s.heap.size) s.heap H locs → W p l e (headSpec wsX10_chance rmX10_chance).room s m args below meth c H locs 0 0 QQ (F0 m 0 ls []) from hgo s.heap [] hP hS
  clear hS hP
  intro H locs hP hS
  refine lv_iload_n hx hb dX10_chance_0 rfl (lv_at hl 1 rfl) ?_
  refine lv_iconst (v := (-1)) hx hb dX10_chance_1 (by decide) ?_
  refine lv_icmp_eq (tgt := 17) hx hb dX10_chance_2 (by decide) (fun c1 => ?_) (fun c1 => ?_)
  · have hf := it_e c1 hf
    refine lv_iload_n hx hb dX10_chance_17 rfl (lv_at hl 2 rfl) ?_
    obtain ⟨q2, hq2, hf⟩ := bd_e hf
    refine k_iR (va_runS (As := [.int p1]) (rest := []) ⟨hx, hb, hml, hown, hts⟩ (c_X10_isPart (l := l) (sz := H.size) (p0 := p1) hq2) (va_cwS 1 hts gX10_chance_X10_isPart rfl rfl rfl (by decide +kernel) ⟨Nat.le_of_ble_eq_true rfl, Nat.le_of_ble_eq_true rfl⟩) preS0 rfl rfl hl.1 rfl (lv_room (Nat.le_of_ble_eq_true rfl)) dX10_chance_18 ⟨Nat.le_refl _, Nat.le_refl _⟩) hA hP hS (fun H locs hP hS hbz_q2 => ?_)
    refine lv_if_ne (tgt := 28) hx hb dX10_chance_21 (by decide) (fun c3 => ?_) (fun c3 => ?_)
    · have hf := ie_e c3 hf
      refine lv_aload_n hx hb dX10_chance_28 rfl (lv_at hl 0 rfl) ?_
      refine r_get (own := RX10) (T := TX10) (n := 9) (ci := 10) (v := .ref (ad 60)) hx hb hts nX10 hown hK hP (by decide) h0 rfl 4 (by decide) k0 rfl dX10_chance_29 ?_
      obtain ⟨q4, hq4, hf⟩ := bd_e hf
      refine k_vW (va_runV (C := RX6) (As := []) (rest := []) ⟨hx, hb, hml, hown, hts⟩ (c_X6_thinkOfOne (l := l) (sz := H.size)  hI h5 h11 h15 h16 h17 h18 h19 h21 h22 h23 h60 h61 h65 hF_ hS_ hq4) (cwV 0 hts gX10_chance_X6_thinkOfOne rfl rfl rfl (by decide +kernel) ⟨Nat.le_of_ble_eq_true rfl, Nat.le_of_ble_eq_true rfl⟩) (preV_of hK hP (by decide) h60 rfl) rfl rfl hl.1 rfl (lv_room (Nat.le_of_ble_eq_true rfl)) dX10_chance_32 ⟨Nat.le_refl _, Nat.le_refl _⟩) hA hAd hS (fun C H locs hP hS hpo => ?_)
      obtain ⟨he, h60, h65⟩ := hpo
      have hag : ∀ i : Nat, i ≠ 60 ∧ i ≠ 65 → C i = C0 i := fun i h => (he i (by omega)).trans (hag i h)
      have h0 := (he 0 (by decide)).trans h0
      have h5 := (he 5 (by decide)).trans h5
      have h11 := (he 11 (by decide)).trans h11
      have h15 := (he 15 (by decide)).trans h15
      have h16 := (he 16 (by decide)).trans h16
      have h17 := (he 17 (by decide)).trans h17
      have h18 := (he 18 (by decide)).trans h18
      have h19 := (he 19 (by decide)).trans h19
      have h21 := (he 21 (by decide)).trans h21
      have h22 := (he 22 (by decide)).trans h22
      have h23 := (he 23 (by decide)).trans h23
      have h61 := (he 61 (by decide)).trans h61
      have hF_ := hF_.ne (fun i h1 => he i (by omega))
      have hS_ := hS_.ne (fun i h1 h2 => he i (by omega))
      refine lv_aload_n hx hb dX10_chance_35 rfl (lv_at hl 0 rfl) ?_
      refine r_get (own := RX10) (T := TX10) (n := 9) (ci := 10) (v := .ref (ad 60)) hx hb hts nX10 hown hK hP (by decide) h0 rfl 4 (by decide) k0 rfl dX10_chance_36 ?_
      refine r_getN (own := RX10) (T := TX6) (n := 13) (ci := 6) (v := .long q4.2.1) hx hb hts nX6 hown hK hP (by decide) h60 rfl 8 (by decide) k2 rfl dX10_chance_39 ?_
      refine lv_lstore_n (lv' := [(3, .long q4.2.1), (0, .ref (ad 0)), (1, .int p0), (2, .int p1)]) hx hb dX10_chance_42 rfl hl (by decide) rfl (fun ls hl => ?_)
      refine lv_lload_n hx hb dX10_chance_43 rfl (lv_at hl 0 rfl) ?_
      refine lv_lconst (v := 0) hx hb dX10_chance_44 (by decide) ?_
      refine W.lcmp hx hb dX10_chance_45 ?_
      refine lv_if_ne (tgt := 53) hx hb dX10_chance_46 (by decide) (fun c5 => ?_) (fun c5 => ?_)
      · have hf := ie_e c5 hf
        refine lv_iload_n hx hb dX10_chance_53 rfl (lv_at hl 2 rfl) ?_
        refine lv_iconst (v := (-1)) hx hb dX10_chance_54 (by decide) ?_
        obtain ⟨q6, htq6, hf⟩ := bd_e hf
        have jnq6 : ∀ (C : Nat → va_E) (H : Heap) (locs : List Loc) (ls : Array Slot), va_P D vwCl (wd 109 ad C) H → va_S (Aw 109 ad s.heap.size) s.heap H locs → (∀ i : Nat, i ≠ 60 ∧ i ≠ 65 → C i = C0 i) → C 0 = .inr (10, [.ref (ad 1), .ref (ad 5), .ref (ad 19), .ref (ad 21), .ref (ad 60), .ref (ad 77), .ref (ad 81), .ref (ad 84), .ref (ad 85)]) → C 5 = .inr (7, [.ref (ad 6), .ref (ad 7), .ref (ad 8), .ref (ad 9), .ref (ad 10), .ref (ad 11), .ref (ad 12), .ref (ad 13), .ref (ad 14), .ref (ad 15), .ref (ad 16), .ref (ad 17), .ref (ad 18), .int t_there, .int t_lift, .int t_none]) → C 11 = aI g 12 t_lik → C 15 = aI g 24 t_rain → C 16 = aI g 4 t_tell → C 17 = aI g 4 t_wy → C 18 = aI g 4 t_wn → C 19 = .inr (9, [.ref (ad 5), .ref (ad 20), .int w_src]) → C 21 = .inr (8, [.ref (ad 5), .ref (ad 19), .ref (ad 22), .ref (ad 23)]) → C 22 = aI g 12 wa_g → C 23 = aS g 12 (fun i => some (ad (24 + 3 * i))) → C 60 = .inr (6, [.ref (ad 5), .ref (ad 19), .ref (ad 21), .ref (ad 61), .ref (ad 62), .ref (ad 65), .ref (ad 66), .long q4.1, .long q4.2.1, .long th_all2, .int q4.2.2.1, .int th_k2, .int th_size]) → C 61 = aF g 10 (fun i => some (ad (67 + i))) → C 65 = aL g 12 q4.2.2.2 → PoolF C fC fS fM fT fY → PoolS g ad C sL sT sF sU → lv_has ls 5 [(0, .ref (ad 0)), (1, .int p0), (2, .int p1), (3, .long q4.2.1)] → W p l e (headSpec wsX10_chance rmX10_chance).room s m args below meth c H locs 0 0 QQ (F0 m 77 ls [.long q6]) := by
          intro C H locs ls hP hS hag h0 h5 h11 h15 h16 h17 h18 h19 h21 h22 h23 h60 h61 h65 hF_ hS_ hl
          refine lv_lload_n hx hb dX10_chance_77 rfl (lv_at hl 3 rfl) ?_
          refine lv_iload_n hx hb dX10_chance_78 rfl (lv_at hl 2 rfl) ?_
          obtain ⟨q7, hq7, hf⟩ := bd_e hf
          refine k_lR (va_runS (As := [.long q6, .long q4.2.1, .int p1]) (rest := []) ⟨hx, hb, hml, hown, hts⟩ (c_X10_lowest (l := l) (sz := H.size) (p0 := q6) (p1 := q4.2.1) (p2 := p1) hq7) (va_cwS 3 hts gX10_chance_X10_lowest rfl rfl rfl (by decide +kernel) ⟨Nat.le_of_ble_eq_true rfl, Nat.le_of_ble_eq_true rfl⟩) preS0 rfl rfl hl.1 rfl (lv_room (Nat.le_of_ble_eq_true rfl)) dX10_chance_79 ⟨Nat.le_refl _, Nat.le_refl _⟩) hA hP hS (fun H locs hP hS => ?_)
          obtain rfl := Option.some.inj hf
          rw [← hQ]
          exact e_lW hx hb hr rfl hP hS ⟨hag, h60, h65⟩ hlocks dX10_chance_82
        clear hf
        have hf := htq6
        refine lv_icmp_ne (tgt := 68) hx hb dX10_chance_55 (by decide) (fun c8 => ?_) (fun c8 => ?_)
        · have hf := ie_e c8 hf
          refine lv_aload_n hx hb dX10_chance_68 rfl (lv_at hl 1 rfl) ?_
          refine r_get (own := RX10) (T := TX10) (n := 9) (ci := 10) (v := .ref (ad 60)) hx hb hts nX10 hown hK hP (by decide) h0 rfl 4 (by decide) k0 rfl dX10_chance_69 ?_
          refine r_getN (own := RX10) (T := TX6) (n := 13) (ci := 6) (v := .ref (ad 65)) hx hb hts nX6 hown hK hP (by decide) h60 rfl 5 (by decide) k4 rfl dX10_chance_72 ?_
          refine lv_iload_n hx hb dX10_chance_75 rfl (lv_at hl 2 rfl) ?_
          obtain ⟨i10, x9, ex9, hf⟩ := rl_e hf
          refine r_lald hx hb hK hP (by decide) h65 i10 dX10_chance_76 ex9 ?_
          obtain rfl := Option.some.inj hf
          exact jnq6 C H locs ls hP hS hag h0 h5 h11 h15 h16 h17 h18 h19 h21 h22 h23 h60 h61 h65 hF_ hS_ (lv_sub hl [1, 2, 3, 0] rfl)
        · have hf := it_e c8 hf
          refine lv_aload_n hx hb dX10_chance_58 rfl (lv_at hl 1 rfl) ?_
          refine r_get (own := RX10) (T := TX10) (n := 9) (ci := 10) (v := .ref (ad 60)) hx hb hts nX10 hown hK hP (by decide) h0 rfl 4 (by decide) k0 rfl dX10_chance_59 ?_
          refine r_getN (own := RX10) (T := TX6) (n := 13) (ci := 6) (v := .long q4.1) hx hb hts nX6 hown hK hP (by decide) h60 rfl 7 (by decide) k5 rfl dX10_chance_62 ?_
          refine lv_goto (tgt := 77) hx hb dX10_chance_65 (by decide) ?_
          obtain rfl := Option.some.inj hf
          exact jnq6 C H locs ls hP hS hag h0 h5 h11 h15 h16 h17 h18 h19 h21 h22 h23 h60 h61 h65 hF_ hS_ (lv_sub hl [1, 2, 3, 0] rfl)
      · have hf := it_e c5 hf
        refine lv_ldc2 (own := RX10) hx hb hown k6 dX10_chance_49 ?_
        obtain rfl := Option.some.inj hf
        rw [← hQ]
        exact e_lW hx hb hr rfl hP hS ⟨hag, h60, h65⟩ hlocks dX10_chance_52
    · have hf := it_e c3 hf
      refine lv_ldc2 (own := RX10) hx hb hown k7 dX10_chance_24 ?_
      obtain rfl := Option.some.inj hf
      rw [← hQ]
      exact e_lW hx hb hr rfl hP hS ⟨hag, h60, h65⟩ hlocks dX10_chance_27
  · have hf := ie_e c1 hf
    refine lv_aload_n hx hb dX10_chance_5 rfl (lv_at hl 0 rfl) ?_
    refine lv_iload_n hx hb dX10_chance_6 rfl (lv_at hl 1 rfl) ?_
    obtain ⟨q11, hq11, hf⟩ := bd_e hf
    refine k_iR (va_runV (C := RX10) (As := [.int p0]) (rest := []) ⟨hx, hb, hml, hown, hts⟩ (c_X10_isSource (l := l) (sz := H.size) (p0 := p0) h0 h5 h19 hq11) (cwV 1 hts gX10_chance_X10_isSource rfl rfl rfl (by decide +kernel) ⟨Nat.le_of_ble_eq_true rfl, Nat.le_of_ble_eq_true rfl⟩) (preV_of hK hP (by decide) h0 rfl) rfl rfl hl.1 rfl (lv_room (Nat.le_of_ble_eq_true rfl)) dX10_chance_7 ⟨Nat.le_refl _, Nat.le_refl _⟩) hA hP hS (fun H locs hP hS hbz_q11 => ?_)
    refine lv_if_ne (tgt := 17) hx hb dX10_chance_10 (by decide) (fun c12 => ?_) (fun c12 => ?_)
    · have hf := ie_e c12 hf
      refine lv_iload_n hx hb dX10_chance_17 rfl (lv_at hl 2 rfl) ?_
      obtain ⟨q13, hq13, hf⟩ := bd_e hf
      refine k_iR (va_runS (As := [.int p1]) (rest := []) ⟨hx, hb, hml, hown, hts⟩ (c_X10_isPart (l := l) (sz := H.size) (p0 := p1) hq13) (va_cwS 1 hts gX10_chance_X10_isPart rfl rfl rfl (by decide +kernel) ⟨Nat.le_of_ble_eq_true rfl, Nat.le_of_ble_eq_true rfl⟩) preS0 rfl rfl hl.1 rfl (lv_room (Nat.le_of_ble_eq_true rfl)) dX10_chance_18 ⟨Nat.le_refl _, Nat.le_refl _⟩) hA hP hS (fun H locs hP hS hbz_q13 => ?_)
      refine lv_if_ne (tgt := 28) hx hb dX10_chance_21 (by decide) (fun c14 => ?_) (fun c14 => ?_)
      · have hf := ie_e c14 hf
        refine lv_aload_n hx hb dX10_chance_28 rfl (lv_at hl 0 rfl) ?_
        refine r_get (own := RX10) (T := TX10) (n := 9) (ci := 10) (v := .ref (ad 60)) hx hb hts nX10 hown hK hP (by decide) h0 rfl 4 (by decide) k0 rfl dX10_chance_29 ?_
        obtain ⟨q15, hq15, hf⟩ := bd_e hf
        refine k_vW (va_runV (C := RX6) (As := []) (rest := []) ⟨hx, hb, hml, hown, hts⟩ (c_X6_thinkOfOne (l := l) (sz := H.size)  hI h5 h11 h15 h16 h17 h18 h19 h21 h22 h23 h60 h61 h65 hF_ hS_ hq15) (cwV 0 hts gX10_chance_X6_thinkOfOne rfl rfl rfl (by decide +kernel) ⟨Nat.le_of_ble_eq_true rfl, Nat.le_of_ble_eq_true rfl⟩) (preV_of hK hP (by decide) h60 rfl) rfl rfl hl.1 rfl (lv_room (Nat.le_of_ble_eq_true rfl)) dX10_chance_32 ⟨Nat.le_refl _, Nat.le_refl _⟩) hA hAd hS (fun C H locs hP hS hpo => ?_)
        obtain ⟨he, h60, h65⟩ := hpo
        have hag : ∀ i : Nat, i ≠ 60 ∧ i ≠ 65 → C i = C0 i := fun i h => (he i (by omega)).trans (hag i h)
        have h0 := (he 0 (by decide)).trans h0
        have h5 := (he 5 (by decide)).trans h5
        have h11 := (he 11 (by decide)).trans h11
        have h15 := (he 15 (by decide)).trans h15
        have h16 := (he 16 (by decide)).trans h16
        have h17 := (he 17 (by decide)).trans h17
        have h18 := (he 18 (by decide)).trans h18
        have h19 := (he 19 (by decide)).trans h19
        have h21 := (he 21 (by decide)).trans h21
        have h22 := (he 22 (by decide)).trans h22
        have h23 := (he 23 (by decide)).trans h23
        have h61 := (he 61 (by decide)).trans h61
        have hF_ := hF_.ne (fun i h1 => he i (by omega))
        have hS_ := hS_.ne (fun i h1 h2 => he i (by omega))
        refine lv_aload_n hx hb dX10_chance_35 rfl (lv_at hl 0 rfl) ?_
        refine r_get (own := RX10) (T := TX10) (n := 9) (ci := 10) (v := .ref (ad 60)) hx hb hts nX10 hown hK hP (by decide) h0 rfl 4 (by decide) k0 rfl dX10_chance_36 ?_
        refine r_getN (own := RX10) (T := TX6) (n := 13) (ci := 6) (v := .long q15.2.1) hx hb hts nX6 hown hK hP (by decide) h60 rfl 8 (by decide) k2 rfl dX10_chance_39 ?_
        refine lv_lstore_n (lv' := [(3, .long q15.2.1), (0, .ref (ad 0)), (1, .int p0), (2, .int p1)]) hx hb dX10_chance_42 rfl hl (by decide) rfl (fun ls hl => ?_)
        refine lv_lload_n hx hb dX10_chance_43 rfl (lv_at hl 0 rfl) ?_
        refine lv_lconst (v := 0) hx hb dX10_chance_44 (by decide) ?_
        refine W.lcmp hx hb dX10_chance_45 ?_
        refine lv_if_ne (tgt := 53) hx hb dX10_chance_46 (by decide) (fun c16 => ?_) (fun c16 => ?_)
        · have hf := ie_e c16 hf
          refine lv_iload_n hx hb dX10_chance_53 rfl (lv_at hl 2 rfl) ?_
          refine lv_iconst (v := (-1)) hx hb dX10_chance_54 (by decide) ?_
          obtain ⟨q17, htq17, hf⟩ := bd_e hf
          have jnq17 : ∀ (C : Nat → va_E) (H : Heap) (locs : List Loc) (ls : Array Slot), va_P D vwCl (wd 109 ad C) H → va_S (Aw 109 ad s.heap.size) s.heap H locs → (∀ i : Nat, i ≠ 60 ∧ i ≠ 65 → C i = C0 i) → C 0 = .inr (10, [.ref (ad 1), .ref (ad 5), .ref (ad 19), .ref (ad 21), .ref (ad 60), .ref (ad 77), .ref (ad 81), .ref (ad 84), .ref (ad 85)]) → C 5 = .inr (7, [.ref (ad 6), .ref (ad 7), .ref (ad 8), .ref (ad 9), .ref (ad 10), .ref (ad 11), .ref (ad 12), .ref (ad 13), .ref (ad 14), .ref (ad 15), .ref (ad 16), .ref (ad 17), .ref (ad 18), .int t_there, .int t_lift, .int t_none]) → C 11 = aI g 12 t_lik → C 15 = aI g 24 t_rain → C 16 = aI g 4 t_tell → C 17 = aI g 4 t_wy → C 18 = aI g 4 t_wn → C 19 = .inr (9, [.ref (ad 5), .ref (ad 20), .int w_src]) → C 21 = .inr (8, [.ref (ad 5), .ref (ad 19), .ref (ad 22), .ref (ad 23)]) → C 22 = aI g 12 wa_g → C 23 = aS g 12 (fun i => some (ad (24 + 3 * i))) → C 60 = .inr (6, [.ref (ad 5), .ref (ad 19), .ref (ad 21), .ref (ad 61), .ref (ad 62), .ref (ad 65), .ref (ad 66), .long q15.1, .long q15.2.1, .long th_all2, .int q15.2.2.1, .int th_k2, .int th_size]) → C 61 = aF g 10 (fun i => some (ad (67 + i))) → C 65 = aL g 12 q15.2.2.2 → PoolF C fC fS fM fT fY → PoolS g ad C sL sT sF sU → lv_has ls 5 [(0, .ref (ad 0)), (1, .int p0), (2, .int p1), (3, .long q15.2.1)] → W p l e (headSpec wsX10_chance rmX10_chance).room s m args below meth c H locs 0 0 QQ (F0 m 77 ls [.long q17]) := by
            intro C H locs ls hP hS hag h0 h5 h11 h15 h16 h17 h18 h19 h21 h22 h23 h60 h61 h65 hF_ hS_ hl
            refine lv_lload_n hx hb dX10_chance_77 rfl (lv_at hl 3 rfl) ?_
            refine lv_iload_n hx hb dX10_chance_78 rfl (lv_at hl 2 rfl) ?_
            obtain ⟨q18, hq18, hf⟩ := bd_e hf
            refine k_lR (va_runS (As := [.long q17, .long q15.2.1, .int p1]) (rest := []) ⟨hx, hb, hml, hown, hts⟩ (c_X10_lowest (l := l) (sz := H.size) (p0 := q17) (p1 := q15.2.1) (p2 := p1) hq18) (va_cwS 3 hts gX10_chance_X10_lowest rfl rfl rfl (by decide +kernel) ⟨Nat.le_of_ble_eq_true rfl, Nat.le_of_ble_eq_true rfl⟩) preS0 rfl rfl hl.1 rfl (lv_room (Nat.le_of_ble_eq_true rfl)) dX10_chance_79 ⟨Nat.le_refl _, Nat.le_refl _⟩) hA hP hS (fun H locs hP hS => ?_)
            obtain rfl := Option.some.inj hf
            rw [← hQ]
            exact e_lW hx hb hr rfl hP hS ⟨hag, h60, h65⟩ hlocks dX10_chance_82
          clear hf
          have hf := htq17
          refine lv_icmp_ne (tgt := 68) hx hb dX10_chance_55 (by decide) (fun c19 => ?_) (fun c19 => ?_)
          · have hf := ie_e c19 hf
            refine lv_aload_n hx hb dX10_chance_68 rfl (lv_at hl 1 rfl) ?_
            refine r_get (own := RX10) (T := TX10) (n := 9) (ci := 10) (v := .ref (ad 60)) hx hb hts nX10 hown hK hP (by decide) h0 rfl 4 (by decide) k0 rfl dX10_chance_69 ?_
            refine r_getN (own := RX10) (T := TX6) (n := 13) (ci := 6) (v := .ref (ad 65)) hx hb hts nX6 hown hK hP (by decide) h60 rfl 5 (by decide) k4 rfl dX10_chance_72 ?_
            refine lv_iload_n hx hb dX10_chance_75 rfl (lv_at hl 2 rfl) ?_
            obtain ⟨i21, x20, ex20, hf⟩ := rl_e hf
            refine r_lald hx hb hK hP (by decide) h65 i21 dX10_chance_76 ex20 ?_
            obtain rfl := Option.some.inj hf
            exact jnq17 C H locs ls hP hS hag h0 h5 h11 h15 h16 h17 h18 h19 h21 h22 h23 h60 h61 h65 hF_ hS_ (lv_sub hl [1, 2, 3, 0] rfl)
          · have hf := it_e c19 hf
            refine lv_aload_n hx hb dX10_chance_58 rfl (lv_at hl 1 rfl) ?_
            refine r_get (own := RX10) (T := TX10) (n := 9) (ci := 10) (v := .ref (ad 60)) hx hb hts nX10 hown hK hP (by decide) h0 rfl 4 (by decide) k0 rfl dX10_chance_59 ?_
            refine r_getN (own := RX10) (T := TX6) (n := 13) (ci := 6) (v := .long q15.1) hx hb hts nX6 hown hK hP (by decide) h60 rfl 7 (by decide) k5 rfl dX10_chance_62 ?_
            refine lv_goto (tgt := 77) hx hb dX10_chance_65 (by decide) ?_
            obtain rfl := Option.some.inj hf
            exact jnq17 C H locs ls hP hS hag h0 h5 h11 h15 h16 h17 h18 h19 h21 h22 h23 h60 h61 h65 hF_ hS_ (lv_sub hl [1, 2, 3, 0] rfl)
        · have hf := it_e c16 hf
          refine lv_ldc2 (own := RX10) hx hb hown k6 dX10_chance_49 ?_
          obtain rfl := Option.some.inj hf
          rw [← hQ]
          exact e_lW hx hb hr rfl hP hS ⟨hag, h60, h65⟩ hlocks dX10_chance_52
      · have hf := it_e c14 hf
        refine lv_ldc2 (own := RX10) hx hb hown k7 dX10_chance_24 ?_
        obtain rfl := Option.some.inj hf
        rw [← hQ]
        exact e_lW hx hb hr rfl hP hS ⟨hag, h60, h65⟩ hlocks dX10_chance_27
    · have hf := it_e c12 hf
      refine lv_ldc2 (own := RX10) hx hb hown k8 dX10_chance_13 ?_
      obtain rfl := Option.some.inj hf
      rw [← hQ]
      exact e_lW hx hb hr rfl hP hS ⟨hag, h60, h65⟩ hlocks dX10_chance_16

def f_X10_two (p0 : Int32) (p1 : Int32) (p2 : Int32) (t_lik : Nat → Int32) (t_rain : Nat → Int32) (t_tell : Nat → Int32) (t_wy : Nat → Int32) (t_wn : Nat → Int32) (t_there : Int32) (w_src : Int32) (wa_g : Nat → Int32) (th_all2 : Int64) (th_k2 : Int32) (th_size : Int32) (th_two : Nat → Int64) (sL : Nat → Nat → Int32) (sT : Nat → Nat → Int32) (sF : Nat → Int32) (sU : Nat → Int32) (fC : Nat → Int32) (fS : Nat → Int32) (fM : Nat → Int32) (fT : Nat → Int32) (fY : Nat → Int32) : Option (Int64 × Int64 × Int32 × (Nat → Int64)) :=
  (f_X10_isSource p0 t_there w_src).bind fun q1 =>
  if q1 = 0 then
    some ((-2 : Int64), th_all2, th_k2, th_two)
  else
    (f_X10_isSource p1 t_there w_src).bind fun q3 =>
    if q3 = 0 then
      some ((-2 : Int64), th_all2, th_k2, th_two)
    else
      if p0 = p1 then
        some ((-2 : Int64), th_all2, th_k2, th_two)
      else
        (f_X10_isPart p2).bind fun q6 =>
        if q6 = 0 then
          some ((-3 : Int64), th_all2, th_k2, th_two)
        else
          (f_X6_thinkOfTwo t_lik t_rain t_tell t_wy t_wn w_src wa_g th_all2 th_k2 th_size th_two sL sT sF sU fC fS fM fT fY).bind fun q8 =>
          if (lg_cmp q8.1 (0 : Int64)) = 0 then
            some ((-4 : Int64), q8.1, q8.2.1, q8.2.2)
          else
            rl q8.2.2 144 (((p0 * 12) + p1)) fun x10 =>
            (f_X10_lowest x10 q8.1 p2).bind fun q12 =>
            some (q12, q8.1, q8.2.1, q8.2.2)
abbrev rmX10_two : Room := { frames := 6, cells := 0, slots := 0, locals := 154 }
set_option maxHeartbeats 4000000 in
set_option maxRecDepth 100000 in
theorem c_X10_two {l : Launch} {D : va_G} {g : Nat → ClassId} {ad : Nat → Nat} {C : Nat → va_E} {sz : Nat} {t_there : Int32} {t_lift : Int32} {t_none : Int32} {t_lik : Nat → Int32} {t_rain : Nat → Int32} {t_tell : Nat → Int32} {t_wy : Nat → Int32} {t_wn : Nat → Int32} {w_src : Int32} {wa_g : Nat → Int32} {th_none : Int64} {th_all1 : Int64} {th_all2 : Int64} {th_k1 : Int32} {th_k2 : Int32} {th_size : Int32} {th_two : Nat → Int64} {fC : Nat → Int32} {fS : Nat → Int32} {fM : Nat → Int32} {fT : Nat → Int32} {fY : Nat → Int32} {sL : Nat → Nat → Int32} {sT : Nat → Nat → Int32} {sF : Nat → Int32} {sU : Nat → Int32} {p0 : Int32} {p1 : Int32} {p2 : Int32} {rr : Int64 × Int64 × Int32 × (Nat → Int64)} (hI : Inj 109 ad) (h0 : C 0 = .inr (10, [.ref (ad 1), .ref (ad 5), .ref (ad 19), .ref (ad 21), .ref (ad 60), .ref (ad 77), .ref (ad 81), .ref (ad 84), .ref (ad 85)])) (h5 : C 5 = .inr (7, [.ref (ad 6), .ref (ad 7), .ref (ad 8), .ref (ad 9), .ref (ad 10), .ref (ad 11), .ref (ad 12), .ref (ad 13), .ref (ad 14), .ref (ad 15), .ref (ad 16), .ref (ad 17), .ref (ad 18), .int t_there, .int t_lift, .int t_none])) (h11 : C 11 = aI g 12 t_lik) (h15 : C 15 = aI g 24 t_rain) (h16 : C 16 = aI g 4 t_tell) (h17 : C 17 = aI g 4 t_wy) (h18 : C 18 = aI g 4 t_wn) (h19 : C 19 = .inr (9, [.ref (ad 5), .ref (ad 20), .int w_src])) (h21 : C 21 = .inr (8, [.ref (ad 5), .ref (ad 19), .ref (ad 22), .ref (ad 23)])) (h22 : C 22 = aI g 12 wa_g) (h23 : C 23 = aS g 12 (fun i => some (ad (24 + 3 * i)))) (h60 : C 60 = .inr (6, [.ref (ad 5), .ref (ad 19), .ref (ad 21), .ref (ad 61), .ref (ad 62), .ref (ad 65), .ref (ad 66), .long th_none, .long th_all1, .long th_all2, .int th_k1, .int th_k2, .int th_size])) (h61 : C 61 = aF g 10 (fun i => some (ad (67 + i)))) (h66 : C 66 = aL g 144 th_two) (hF_ : PoolF C fC fS fM fT fY) (hS_ : PoolS g ad C sL sT sF sU) (hf : f_X10_two p0 p1 p2 t_lik t_rain t_tell t_wy t_wn t_there w_src wa_g th_all2 th_k2 th_size th_two sL sT sF sU fC fS fM fT fY = some rr) : Met l yX10_two wsX10_two rmX10_two (PcW D g 109 ad C sz [.ref (ad 0), .int p0, .int p1, .int p2]) (QlW D 109 ad sz rr.1 (fun C' => (∀ i : Nat, i ≠ 60 ∧ i ≠ 66 → C' i = C i) ∧ (C' 60 = .inr (6, [.ref (ad 5), .ref (ad 19), .ref (ad 21), .ref (ad 61), .ref (ad 62), .ref (ad 65), .ref (ad 66), .long th_none, .long th_all1, .long rr.2.1, .int th_k1, .int rr.2.2.1, .int th_size])) ∧ (C' 66 = aL g 144 rr.2.2.2))) 0 0 (Aw 109 ad sz) := by
  refine Met.ofW (cc := cX10_two) (maxL := 6) (ret := (some .long)) (by decide) rfl ?_
  intro p e s m args below meth c s₁ B hml hv
  obtain ⟨hav, hsz, hK, hP⟩ := hv
  subst hsz
  have hx := B.exec
  have hb := B.bytes
  have hr := B.returns
  have hts := atoms_spec (ws := wsX10_two) B.pre
  have hown : s.vm.findClass RX10 = some m.cls := findClass_of_methodNamed B.named
  have hlocks := B.notSynchronized
  generalize hQ : MQ below (QlW D 109 ad s.heap.size rr.1 (fun C' => (∀ i : Nat, i ≠ 60 ∧ i ≠ 66 → C' i = C i) ∧ (C' 60 = .inr (6, [.ref (ad 5), .ref (ad 19), .ref (ad 21), .ref (ad 61), .ref (ad 62), .ref (ad 65), .ref (ad 66), .long th_none, .long th_all1, .long rr.2.1, .int th_k1, .int rr.2.2.1, .int th_size])) ∧ (C' 66 = aL g 144 rr.2.2.2))) args s 0 0 (Aw 109 ad s.heap.size) = QQ
  have hS : va_S (Aw 109 ad s.heap.size) s.heap s.heap [] := va_S.rf
  have hA : ∀ q, s.heap.size ≤ q → (Aw 109 ad s.heap.size) q := fun q h => Or.inr h
  have hAd : ∀ j : Nat, j < 109 → (Aw 109 ad s.heap.size) (ad j) := fun j h => Or.inl ⟨j, h, rfl⟩
  obtain ⟨C0, hC0⟩ : ∃ C0 : Nat → va_E, C0 = C := ⟨_, rfl⟩
  have hag : ∀ i : Nat, i ≠ 60 ∧ i ≠ 66 → C i = C0 i := fun i _ => by rw [hC0]
  rw [← hC0] at hQ
  have k0 := hts (.constantLong RX10 209 (-2)) (List.mem_of_getElem? (i := 1) rfl)
  have k1 := hts (.fieldLink RX10 46 "UpDrain" "thoughts" "LUpDrain$Thoughts;") (List.mem_of_getElem? (i := 3) rfl)
  have nX10 : ∀ w ∈ u_ws RX10 TX10 9, w ∈ wsX10_two := fun _ h => List.mem_cons_of_mem _ (List.mem_append_left _ (List.mem_append_left _ (List.mem_append_left _ (List.mem_append_left _ (List.mem_append_left _ (List.mem_append_left _ (List.mem_append_right _ h)))))))
  have k3 := nf_68 (A := args) hK
  have nX6 : ∀ w ∈ u_ws RX6 TX6 13, w ∈ wsX10_two := fun _ h => List.mem_cons_of_mem _ (List.mem_append_left _ (List.mem_append_left _ (List.mem_append_left _ (List.mem_append_left _ (List.mem_append_left _ (List.mem_append_right _ h))))))
  have k5 := nf_65 (A := args) hK
  have k6 := hts (.constantLong RX10 220 (-4)) (List.mem_of_getElem? (i := 4) rfl)
  have k7 := hts (.constantLong RX10 211 (-3)) (List.mem_of_getElem? (i := 2) rfl)
  have hE := lg_entry_eq m [.ref (ad 0), .int p0, .int p1, .int p2] 6
  rw [← hav] at hE
  rw [hE]
  have hl := lv_entry [.ref (ad 0), .int p0, .int p1, .int p2] (n := 6) (Nat.le_of_ble_eq_true rfl)
  generalize (lg_sl [.ref (ad 0), .int p0, .int p1, .int p2] ++ List.replicate (6 - (lg_sl [.ref (ad 0), .int p0, .int p1, .int p2]).length) Slot.unset).toArray = ls at hl ⊢
  have hl : lv_has ls 6 [(0, .ref (ad 0)), (1, .int p0), (2, .int p1), (3, .int p2)] := hl
  clear hE
  unfold f_X10_two at hf
  suffices hgo : ∀ (H : Heap) (locs : List Loc), va_P D vwCl (wd 109 ad C) H → va_S (Aw 109 ad s.heap.size) s.heap H locs → W p l e (headSpec wsX10_two rmX10_two).room s m args below meth c H locs 0 0 QQ (F0 m 0 ls []) from hgo s.heap [] hP hS
  clear hS hP
  intro H locs hP hS
  refine lv_aload_n hx hb dX10_two_0 rfl (lv_at hl 0 rfl) ?_
  refine lv_iload_n hx hb dX10_two_1 rfl (lv_at hl 1 rfl) ?_
  obtain ⟨q1, hq1, hf⟩ := bd_e hf
  refine k_iR (va_runV (C := RX10) (As := [.int p0]) (rest := []) ⟨hx, hb, hml, hown, hts⟩ (c_X10_isSource (l := l) (sz := H.size) (p0 := p0) h0 h5 h19 hq1) (cwV 1 hts gX10_two_X10_isSource rfl rfl rfl (by decide +kernel) ⟨Nat.le_of_ble_eq_true rfl, Nat.le_of_ble_eq_true rfl⟩) (preV_of hK hP (by decide) h0 rfl) rfl rfl hl.1 rfl (lv_room (Nat.le_of_ble_eq_true rfl)) dX10_two_2 ⟨Nat.le_refl _, Nat.le_refl _⟩) hA hP hS (fun H locs hP hS hbz_q1 => ?_)
  refine lv_if_eq (tgt := 21) hx hb dX10_two_5 (by decide) (fun c2 => ?_) (fun c2 => ?_)
  · have hf := it_e c2 hf
    refine lv_ldc2 (own := RX10) hx hb hown k0 dX10_two_21 ?_
    obtain rfl := Option.some.inj hf
    rw [← hQ]
    exact e_lW hx hb hr rfl hP hS ⟨hag, h60, h66⟩ hlocks dX10_two_24
  · have hf := ie_e c2 hf
    refine lv_aload_n hx hb dX10_two_8 rfl (lv_at hl 0 rfl) ?_
    refine lv_iload_n hx hb dX10_two_9 rfl (lv_at hl 2 rfl) ?_
    obtain ⟨q3, hq3, hf⟩ := bd_e hf
    refine k_iR (va_runV (C := RX10) (As := [.int p1]) (rest := []) ⟨hx, hb, hml, hown, hts⟩ (c_X10_isSource (l := l) (sz := H.size) (p0 := p1) h0 h5 h19 hq3) (cwV 1 hts gX10_two_X10_isSource rfl rfl rfl (by decide +kernel) ⟨Nat.le_of_ble_eq_true rfl, Nat.le_of_ble_eq_true rfl⟩) (preV_of hK hP (by decide) h0 rfl) rfl rfl hl.1 rfl (lv_room (Nat.le_of_ble_eq_true rfl)) dX10_two_10 ⟨Nat.le_refl _, Nat.le_refl _⟩) hA hP hS (fun H locs hP hS hbz_q3 => ?_)
    refine lv_if_eq (tgt := 21) hx hb dX10_two_13 (by decide) (fun c4 => ?_) (fun c4 => ?_)
    · have hf := it_e c4 hf
      refine lv_ldc2 (own := RX10) hx hb hown k0 dX10_two_21 ?_
      obtain rfl := Option.some.inj hf
      rw [← hQ]
      exact e_lW hx hb hr rfl hP hS ⟨hag, h60, h66⟩ hlocks dX10_two_24
    · have hf := ie_e c4 hf
      refine lv_iload_n hx hb dX10_two_16 rfl (lv_at hl 1 rfl) ?_
      refine lv_iload_n hx hb dX10_two_17 rfl (lv_at hl 2 rfl) ?_
      refine lv_icmp_ne (tgt := 25) hx hb dX10_two_18 (by decide) (fun c5 => ?_) (fun c5 => ?_)
      · have hf := ie_e c5 hf
        refine lv_iload_n hx hb dX10_two_25 rfl (lv_at hl 3 rfl) ?_
        obtain ⟨q6, hq6, hf⟩ := bd_e hf
        refine k_iR (va_runS (As := [.int p2]) (rest := []) ⟨hx, hb, hml, hown, hts⟩ (c_X10_isPart (l := l) (sz := H.size) (p0 := p2) hq6) (va_cwS 1 hts gX10_two_X10_isPart rfl rfl rfl (by decide +kernel) ⟨Nat.le_of_ble_eq_true rfl, Nat.le_of_ble_eq_true rfl⟩) preS0 rfl rfl hl.1 rfl (lv_room (Nat.le_of_ble_eq_true rfl)) dX10_two_26 ⟨Nat.le_refl _, Nat.le_refl _⟩) hA hP hS (fun H locs hP hS hbz_q6 => ?_)
        refine lv_if_ne (tgt := 36) hx hb dX10_two_29 (by decide) (fun c7 => ?_) (fun c7 => ?_)
        · have hf := ie_e c7 hf
          refine lv_aload_n hx hb dX10_two_36 rfl (lv_at hl 0 rfl) ?_
          refine r_get (own := RX10) (T := TX10) (n := 9) (ci := 10) (v := .ref (ad 60)) hx hb hts nX10 hown hK hP (by decide) h0 rfl 4 (by decide) k1 rfl dX10_two_37 ?_
          obtain ⟨q8, hq8, hf⟩ := bd_e hf
          refine k_vW (va_runV (C := RX6) (As := []) (rest := []) ⟨hx, hb, hml, hown, hts⟩ (c_X6_thinkOfTwo (l := l) (sz := H.size)  hI h5 h11 h15 h16 h17 h18 h19 h21 h22 h23 h60 h61 h66 hF_ hS_ hq8) (cwV 0 hts gX10_two_X6_thinkOfTwo rfl rfl rfl (by decide +kernel) ⟨Nat.le_of_ble_eq_true rfl, Nat.le_of_ble_eq_true rfl⟩) (preV_of hK hP (by decide) h60 rfl) rfl rfl hl.1 rfl (lv_room (Nat.le_of_ble_eq_true rfl)) dX10_two_40 ⟨Nat.le_refl _, Nat.le_refl _⟩) hA hAd hS (fun C H locs hP hS hpo => ?_)
          obtain ⟨he, h60, h66⟩ := hpo
          have hag : ∀ i : Nat, i ≠ 60 ∧ i ≠ 66 → C i = C0 i := fun i h => (he i (by omega)).trans (hag i h)
          have h0 := (he 0 (by decide)).trans h0
          have h5 := (he 5 (by decide)).trans h5
          have h11 := (he 11 (by decide)).trans h11
          have h15 := (he 15 (by decide)).trans h15
          have h16 := (he 16 (by decide)).trans h16
          have h17 := (he 17 (by decide)).trans h17
          have h18 := (he 18 (by decide)).trans h18
          have h19 := (he 19 (by decide)).trans h19
          have h21 := (he 21 (by decide)).trans h21
          have h22 := (he 22 (by decide)).trans h22
          have h23 := (he 23 (by decide)).trans h23
          have h61 := (he 61 (by decide)).trans h61
          have hF_ := hF_.ne (fun i h1 => he i (by omega))
          have hS_ := hS_.ne (fun i h1 h2 => he i (by omega))
          refine lv_aload_n hx hb dX10_two_43 rfl (lv_at hl 0 rfl) ?_
          refine r_get (own := RX10) (T := TX10) (n := 9) (ci := 10) (v := .ref (ad 60)) hx hb hts nX10 hown hK hP (by decide) h0 rfl 4 (by decide) k1 rfl dX10_two_44 ?_
          refine r_getN (own := RX10) (T := TX6) (n := 13) (ci := 6) (v := .long q8.1) hx hb hts nX6 hown hK hP (by decide) h60 rfl 9 (by decide) k3 rfl dX10_two_47 ?_
          refine lv_lstore (lv' := [(4, .long q8.1), (0, .ref (ad 0)), (1, .int p0), (2, .int p1), (3, .int p2)]) hx hb dX10_two_50 hl (by decide) rfl (fun ls hl => ?_)
          refine lv_lload hx hb dX10_two_52 (lv_at hl 0 rfl) ?_
          refine lv_lconst (v := 0) hx hb dX10_two_54 (by decide) ?_
          refine W.lcmp hx hb dX10_two_55 ?_
          refine lv_if_ne (tgt := 65) hx hb dX10_two_56 (by decide) (fun c9 => ?_) (fun c9 => ?_)
          · have hf := ie_e c9 hf
            refine lv_aload_n hx hb dX10_two_65 rfl (lv_at hl 1 rfl) ?_
            refine r_get (own := RX10) (T := TX10) (n := 9) (ci := 10) (v := .ref (ad 60)) hx hb hts nX10 hown hK hP (by decide) h0 rfl 4 (by decide) k1 rfl dX10_two_66 ?_
            refine r_getN (own := RX10) (T := TX6) (n := 13) (ci := 6) (v := .ref (ad 66)) hx hb hts nX6 hown hK hP (by decide) h60 rfl 6 (by decide) k5 rfl dX10_two_69 ?_
            refine lv_iload_n hx hb dX10_two_72 rfl (lv_at hl 2 rfl) ?_
            refine lv_bipush (v := 12) hx hb dX10_two_73 (by decide) ?_
            refine lv_imul hx hb dX10_two_75 ?_
            refine lv_iload_n hx hb dX10_two_76 rfl (lv_at hl 3 rfl) ?_
            refine lv_iadd hx hb dX10_two_77 ?_
            obtain ⟨i11, x10, ex10, hf⟩ := rl_e hf
            refine r_lald hx hb hK hP (by decide) h66 i11 dX10_two_78 ex10 ?_
            refine lv_lload hx hb dX10_two_79 (lv_at hl 0 rfl) ?_
            refine lv_iload_n hx hb dX10_two_81 rfl (lv_at hl 4 rfl) ?_
            obtain ⟨q12, hq12, hf⟩ := bd_e hf
            refine k_lR (va_runS (As := [.long x10, .long q8.1, .int p2]) (rest := []) ⟨hx, hb, hml, hown, hts⟩ (c_X10_lowest (l := l) (sz := H.size) (p0 := x10) (p1 := q8.1) (p2 := p2) hq12) (va_cwS 3 hts gX10_two_X10_lowest rfl rfl rfl (by decide +kernel) ⟨Nat.le_of_ble_eq_true rfl, Nat.le_of_ble_eq_true rfl⟩) preS0 rfl rfl hl.1 rfl (lv_room (Nat.le_of_ble_eq_true rfl)) dX10_two_82 ⟨Nat.le_refl _, Nat.le_refl _⟩) hA hP hS (fun H locs hP hS => ?_)
            obtain rfl := Option.some.inj hf
            rw [← hQ]
            exact e_lW hx hb hr rfl hP hS ⟨hag, h60, h66⟩ hlocks dX10_two_85
          · have hf := it_e c9 hf
            refine lv_ldc2 (own := RX10) hx hb hown k6 dX10_two_59 ?_
            refine lv_goto (tgt := 85) hx hb dX10_two_62 (by decide) ?_
            obtain rfl := Option.some.inj hf
            rw [← hQ]
            exact e_lW hx hb hr rfl hP hS ⟨hag, h60, h66⟩ hlocks dX10_two_85
        · have hf := it_e c7 hf
          refine lv_ldc2 (own := RX10) hx hb hown k7 dX10_two_32 ?_
          obtain rfl := Option.some.inj hf
          rw [← hQ]
          exact e_lW hx hb hr rfl hP hS ⟨hag, h60, h66⟩ hlocks dX10_two_35
      · have hf := it_e c5 hf
        refine lv_ldc2 (own := RX10) hx hb hown k0 dX10_two_21 ?_
        obtain rfl := Option.some.inj hf
        rw [← hQ]
        exact e_lW hx hb hr rfl hP hS ⟨hag, h60, h66⟩ hlocks dX10_two_24

def f_X10_worth (p0 : Int32) (p1 : Int32) (p2 : Int32) (p3 : Int32) (p4 : Int32) (t_lik : Nat → Int32) (t_rain : Nat → Int32) (t_tell : Nat → Int32) (t_wy : Nat → Int32) (t_wn : Nat → Int32) (t_there : Int32) (t_none : Int32) (w_src : Int32) (wa_g : Nat → Int32) (th_none : Int64) (th_all1 : Int64) (th_k1 : Int32) (th_size : Int32) (th_one : Nat → Int64) (sL : Nat → Nat → Int32) (sT : Nat → Nat → Int32) (sF : Nat → Int32) (sU : Nat → Int32) (fC : Nat → Int32) (fS : Nat → Int32) (fM : Nat → Int32) (fT : Nat → Int32) (fY : Nat → Int32) : Option (Int64 × Int64 × Int64 × Int32 × (Nat → Int64) × (Nat → Int32) × (Nat → Int32) × (Nat → Int32) × (Nat → Int32) × (Nat → Int32)) :=
  (f_X10_isCup p0).bind fun q1 =>
  if q1 = 0 then
    some ((-2 : Int64), th_none, th_all1, th_k1, th_one, fC, fS, fM, fT, fY)
  else
    (f_X10_canFill p1 p2 p3 t_there).bind fun q3 =>
    if q3 = 0 then
      some ((-3 : Int64), th_none, th_all1, th_k1, th_one, fC, fS, fM, fT, fY)
    else
      (f_X10_isPart p4).bind fun q5 =>
      if q5 = 0 then
        some ((-3 : Int64), th_none, th_all1, th_k1, th_one, fC, fS, fM, fT, fY)
      else
        (f_X6_thinkOfOne t_lik t_rain t_tell t_wy t_wn t_none w_src wa_g th_none th_all1 th_k1 th_size th_one sL sT sF sU fC fS fM fT fY).bind fun q7 =>
        if (lg_cmp q7.2.1 (0 : Int64)) = 0 then
          some ((-4 : Int64), q7.1, q7.2.1, q7.2.2.1, q7.2.2.2, fC, fS, fM, fT, fY)
        else
          (f_X1_put 85 p0 p1 p2 p3 1 fC fS fM fT fY).bind fun q9 =>
          (f_X6_tenthsOf 85 t_rain t_tell t_wy t_wn wa_g q7.1 q7.2.2.2 sL sT sF sU q9.1 q9.2.1 q9.2.2.1 q9.2.2.2.1 q9.2.2.2.2).bind fun q10 =>
          (f_X10_lowest q10 ((10 : Int64) * q7.2.1) p4).bind fun q11 =>
          some (q11, q7.1, q7.2.1, q7.2.2.1, q7.2.2.2, q9.1, q9.2.1, q9.2.2.1, q9.2.2.2.1, q9.2.2.2.2)
abbrev rmX10_worth : Room := { frames := 6, cells := 0, slots := 0, locals := 149 }
set_option maxHeartbeats 4000000 in
set_option maxRecDepth 100000 in
theorem c_X10_worth {l : Launch} {D : va_G} {g : Nat → ClassId} {ad : Nat → Nat} {C : Nat → va_E} {sz : Nat} {t_there : Int32} {t_lift : Int32} {t_none : Int32} {t_lik : Nat → Int32} {t_rain : Nat → Int32} {t_tell : Nat → Int32} {t_wy : Nat → Int32} {t_wn : Nat → Int32} {w_src : Int32} {wa_g : Nat → Int32} {th_none : Int64} {th_all1 : Int64} {th_all2 : Int64} {th_k1 : Int32} {th_k2 : Int32} {th_size : Int32} {th_one : Nat → Int64} {fC : Nat → Int32} {fS : Nat → Int32} {fM : Nat → Int32} {fT : Nat → Int32} {fY : Nat → Int32} {sL : Nat → Nat → Int32} {sT : Nat → Nat → Int32} {sF : Nat → Int32} {sU : Nat → Int32} {p0 : Int32} {p1 : Int32} {p2 : Int32} {p3 : Int32} {p4 : Int32} {rr : Int64 × Int64 × Int64 × Int32 × (Nat → Int64) × (Nat → Int32) × (Nat → Int32) × (Nat → Int32) × (Nat → Int32) × (Nat → Int32)} (hI : Inj 109 ad) (h0 : C 0 = .inr (10, [.ref (ad 1), .ref (ad 5), .ref (ad 19), .ref (ad 21), .ref (ad 60), .ref (ad 77), .ref (ad 81), .ref (ad 84), .ref (ad 85)])) (h5 : C 5 = .inr (7, [.ref (ad 6), .ref (ad 7), .ref (ad 8), .ref (ad 9), .ref (ad 10), .ref (ad 11), .ref (ad 12), .ref (ad 13), .ref (ad 14), .ref (ad 15), .ref (ad 16), .ref (ad 17), .ref (ad 18), .int t_there, .int t_lift, .int t_none])) (h11 : C 11 = aI g 12 t_lik) (h15 : C 15 = aI g 24 t_rain) (h16 : C 16 = aI g 4 t_tell) (h17 : C 17 = aI g 4 t_wy) (h18 : C 18 = aI g 4 t_wn) (h19 : C 19 = .inr (9, [.ref (ad 5), .ref (ad 20), .int w_src])) (h21 : C 21 = .inr (8, [.ref (ad 5), .ref (ad 19), .ref (ad 22), .ref (ad 23)])) (h22 : C 22 = aI g 12 wa_g) (h23 : C 23 = aS g 12 (fun i => some (ad (24 + 3 * i)))) (h60 : C 60 = .inr (6, [.ref (ad 5), .ref (ad 19), .ref (ad 21), .ref (ad 61), .ref (ad 62), .ref (ad 65), .ref (ad 66), .long th_none, .long th_all1, .long th_all2, .int th_k1, .int th_k2, .int th_size])) (h61 : C 61 = aF g 10 (fun i => some (ad (67 + i)))) (h65 : C 65 = aL g 12 th_one) (hF_ : PoolF C fC fS fM fT fY) (hS_ : PoolS g ad C sL sT sF sU) (hf : f_X10_worth p0 p1 p2 p3 p4 t_lik t_rain t_tell t_wy t_wn t_there t_none w_src wa_g th_none th_all1 th_k1 th_size th_one sL sT sF sU fC fS fM fT fY = some rr) : Met l yX10_worth wsX10_worth rmX10_worth (PcW D g 109 ad C sz [.ref (ad 0), .int p0, .int p1, .int p2, .int p3, .int p4]) (QlW D 109 ad sz rr.1 (fun C' => (∀ i : Nat, i ≠ 60 ∧ i ≠ 65 ∧ (i < 67 ∨ 76 < i) ∧ i ≠ 85 → C' i = C i) ∧ (C' 60 = .inr (6, [.ref (ad 5), .ref (ad 19), .ref (ad 21), .ref (ad 61), .ref (ad 62), .ref (ad 65), .ref (ad 66), .long rr.2.1, .long rr.2.2.1, .long th_all2, .int rr.2.2.2.1, .int th_k2, .int th_size])) ∧ (C' 65 = aL g 12 rr.2.2.2.2.1) ∧ (PoolF C' rr.2.2.2.2.2.1 rr.2.2.2.2.2.2.1 rr.2.2.2.2.2.2.2.1 rr.2.2.2.2.2.2.2.2.1 rr.2.2.2.2.2.2.2.2.2))) 0 0 (Aw 109 ad sz) := by
  refine Met.ofW (cc := cX10_worth) (maxL := 6) (ret := (some .long)) (by decide) rfl ?_
  intro p e s m args below meth c s₁ B hml hv
  obtain ⟨hav, hsz, hK, hP⟩ := hv
  subst hsz
  have hx := B.exec
  have hb := B.bytes
  have hr := B.returns
  have hts := atoms_spec (ws := wsX10_worth) B.pre
  have hown : s.vm.findClass RX10 = some m.cls := findClass_of_methodNamed B.named
  have hlocks := B.notSynchronized
  generalize hQ : MQ below (QlW D 109 ad s.heap.size rr.1 (fun C' => (∀ i : Nat, i ≠ 60 ∧ i ≠ 65 ∧ (i < 67 ∨ 76 < i) ∧ i ≠ 85 → C' i = C i) ∧ (C' 60 = .inr (6, [.ref (ad 5), .ref (ad 19), .ref (ad 21), .ref (ad 61), .ref (ad 62), .ref (ad 65), .ref (ad 66), .long rr.2.1, .long rr.2.2.1, .long th_all2, .int rr.2.2.2.1, .int th_k2, .int th_size])) ∧ (C' 65 = aL g 12 rr.2.2.2.2.1) ∧ (PoolF C' rr.2.2.2.2.2.1 rr.2.2.2.2.2.2.1 rr.2.2.2.2.2.2.2.1 rr.2.2.2.2.2.2.2.2.1 rr.2.2.2.2.2.2.2.2.2))) args s 0 0 (Aw 109 ad s.heap.size) = QQ
  have hS : va_S (Aw 109 ad s.heap.size) s.heap s.heap [] := va_S.rf
  have hA : ∀ q, s.heap.size ≤ q → (Aw 109 ad s.heap.size) q := fun q h => Or.inr h
  have hAd : ∀ j : Nat, j < 109 → (Aw 109 ad s.heap.size) (ad j) := fun j h => Or.inl ⟨j, h, rfl⟩
  obtain ⟨C0, hC0⟩ : ∃ C0 : Nat → va_E, C0 = C := ⟨_, rfl⟩
  have hag : ∀ i : Nat, i ≠ 60 ∧ i ≠ 65 ∧ (i < 67 ∨ 76 < i) ∧ i ≠ 85 → C i = C0 i := fun i _ => by rw [hC0]
  rw [← hC0] at hQ
  have k0 := hts (.constantLong RX10 211 (-3)) (List.mem_of_getElem? (i := 2) rfl)
  have k1 := hts (.fieldLink RX10 46 "UpDrain" "thoughts" "LUpDrain$Thoughts;") (List.mem_of_getElem? (i := 3) rfl)
  have nX10 : ∀ w ∈ u_ws RX10 TX10 9, w ∈ wsX10_worth := fun _ h => List.mem_cons_of_mem _ (List.mem_append_left _ (List.mem_append_left _ (List.mem_append_left _ (List.mem_append_left _ (List.mem_append_left _ (List.mem_append_left _ (List.mem_append_right _ h)))))))
  have k3 := nf_67 (A := args) hK
  have nX6 : ∀ w ∈ u_ws RX6 TX6 13, w ∈ wsX10_worth := fun _ h => List.mem_cons_of_mem _ (List.mem_append_left _ (List.mem_append_left _ (List.mem_append_left _ (List.mem_append_left _ (List.mem_append_left _ (List.mem_append_right _ h))))))
  have k5 := hts (.fieldLink RX10 76 "UpDrain" "asked" "LUpDrain$Filling;") (List.mem_of_getElem? (i := 5) rfl)
  have k6 := hts (.constantLong RX10 246 (10)) (List.mem_of_getElem? (i := 6) rfl)
  have k7 := hts (.constantLong RX10 220 (-4)) (List.mem_of_getElem? (i := 4) rfl)
  have k8 := hts (.constantLong RX10 209 (-2)) (List.mem_of_getElem? (i := 1) rfl)
  have hE := lg_entry_eq m [.ref (ad 0), .int p0, .int p1, .int p2, .int p3, .int p4] 6
  rw [← hav] at hE
  rw [hE]
  have hl := lv_entry [.ref (ad 0), .int p0, .int p1, .int p2, .int p3, .int p4] (n := 6) (Nat.le_of_ble_eq_true rfl)
  generalize (lg_sl [.ref (ad 0), .int p0, .int p1, .int p2, .int p3, .int p4] ++ List.replicate (6 - (lg_sl [.ref (ad 0), .int p0, .int p1, .int p2, .int p3, .int p4]).length) Slot.unset).toArray = ls at hl ⊢
  have hl : lv_has ls 6 [(0, .ref (ad 0)), (1, .int p0), (2, .int p1), (3, .int p2), (4, .int p3), (5, .int p4)] := hl
  clear hE
  unfold f_X10_worth at hf
  suffices hgo : ∀ (H : Heap) (locs : List Loc), va_P D vwCl (wd 109 ad C) H → va_S (Aw 109 ad s.heap.size) s.heap H locs → W p l e (headSpec wsX10_worth rmX10_worth).room s m args below meth c H locs 0 0 QQ (F0 m 0 ls []) from hgo s.heap [] hP hS
  clear hS hP
  intro H locs hP hS
  refine lv_iload_n hx hb dX10_worth_0 rfl (lv_at hl 1 rfl) ?_
  obtain ⟨q1, hq1, hf⟩ := bd_e hf
  refine k_iR (va_runS (As := [.int p0]) (rest := []) ⟨hx, hb, hml, hown, hts⟩ (c_X10_isCup (l := l) (sz := H.size) (p0 := p0) hq1) (va_cwS 1 hts gX10_worth_X10_isCup rfl rfl rfl (by decide +kernel) ⟨Nat.le_of_ble_eq_true rfl, Nat.le_of_ble_eq_true rfl⟩) preS0 rfl rfl hl.1 rfl (lv_room (Nat.le_of_ble_eq_true rfl)) dX10_worth_1 ⟨Nat.le_refl _, Nat.le_refl _⟩) hA hP hS (fun H locs hP hS hbz_q1 => ?_)
  refine lv_if_ne (tgt := 11) hx hb dX10_worth_4 (by decide) (fun c2 => ?_) (fun c2 => ?_)
  · have hf := ie_e c2 hf
    refine lv_aload_n hx hb dX10_worth_11 rfl (lv_at hl 0 rfl) ?_
    refine lv_iload_n hx hb dX10_worth_12 rfl (lv_at hl 2 rfl) ?_
    refine lv_iload_n hx hb dX10_worth_13 rfl (lv_at hl 3 rfl) ?_
    refine lv_iload hx hb dX10_worth_14 (lv_at hl 4 rfl) ?_
    obtain ⟨q3, hq3, hf⟩ := bd_e hf
    refine k_iR (va_runV (C := RX10) (As := [.int p1, .int p2, .int p3]) (rest := []) ⟨hx, hb, hml, hown, hts⟩ (c_X10_canFill (l := l) (sz := H.size) (p0 := p1) (p1 := p2) (p2 := p3) h0 h5 hq3) (cwV 3 hts gX10_worth_X10_canFill rfl rfl rfl (by decide +kernel) ⟨Nat.le_of_ble_eq_true rfl, Nat.le_of_ble_eq_true rfl⟩) (preV_of hK hP (by decide) h0 rfl) rfl rfl hl.1 rfl (lv_room (Nat.le_of_ble_eq_true rfl)) dX10_worth_16 ⟨Nat.le_refl _, Nat.le_refl _⟩) hA hP hS (fun H locs hP hS hbz_q3 => ?_)
    refine lv_if_eq (tgt := 30) hx hb dX10_worth_19 (by decide) (fun c4 => ?_) (fun c4 => ?_)
    · have hf := it_e c4 hf
      refine lv_ldc2 (own := RX10) hx hb hown k0 dX10_worth_30 ?_
      obtain rfl := Option.some.inj hf
      rw [← hQ]
      exact e_lW hx hb hr rfl hP hS ⟨hag, h60, h65, hF_⟩ hlocks dX10_worth_33
    · have hf := ie_e c4 hf
      refine lv_iload hx hb dX10_worth_22 (lv_at hl 5 rfl) ?_
      obtain ⟨q5, hq5, hf⟩ := bd_e hf
      refine k_iR (va_runS (As := [.int p4]) (rest := []) ⟨hx, hb, hml, hown, hts⟩ (c_X10_isPart (l := l) (sz := H.size) (p0 := p4) hq5) (va_cwS 1 hts gX10_worth_X10_isPart rfl rfl rfl (by decide +kernel) ⟨Nat.le_of_ble_eq_true rfl, Nat.le_of_ble_eq_true rfl⟩) preS0 rfl rfl hl.1 rfl (lv_room (Nat.le_of_ble_eq_true rfl)) dX10_worth_24 ⟨Nat.le_refl _, Nat.le_refl _⟩) hA hP hS (fun H locs hP hS hbz_q5 => ?_)
      refine lv_if_ne (tgt := 34) hx hb dX10_worth_27 (by decide) (fun c6 => ?_) (fun c6 => ?_)
      · have hf := ie_e c6 hf
        refine lv_aload_n hx hb dX10_worth_34 rfl (lv_at hl 0 rfl) ?_
        refine r_get (own := RX10) (T := TX10) (n := 9) (ci := 10) (v := .ref (ad 60)) hx hb hts nX10 hown hK hP (by decide) h0 rfl 4 (by decide) k1 rfl dX10_worth_35 ?_
        obtain ⟨q7, hq7, hf⟩ := bd_e hf
        refine k_vW (va_runV (C := RX6) (As := []) (rest := []) ⟨hx, hb, hml, hown, hts⟩ (c_X6_thinkOfOne (l := l) (sz := H.size)  hI h5 h11 h15 h16 h17 h18 h19 h21 h22 h23 h60 h61 h65 hF_ hS_ hq7) (cwV 0 hts gX10_worth_X6_thinkOfOne rfl rfl rfl (by decide +kernel) ⟨Nat.le_of_ble_eq_true rfl, Nat.le_of_ble_eq_true rfl⟩) (preV_of hK hP (by decide) h60 rfl) rfl rfl hl.1 rfl (lv_room (Nat.le_of_ble_eq_true rfl)) dX10_worth_38 ⟨Nat.le_refl _, Nat.le_refl _⟩) hA hAd hS (fun C H locs hP hS hpo => ?_)
        obtain ⟨he, h60, h65⟩ := hpo
        have hag : ∀ i : Nat, i ≠ 60 ∧ i ≠ 65 ∧ (i < 67 ∨ 76 < i) ∧ i ≠ 85 → C i = C0 i := fun i h => (he i (by omega)).trans (hag i h)
        have h0 := (he 0 (by decide)).trans h0
        have h5 := (he 5 (by decide)).trans h5
        have h11 := (he 11 (by decide)).trans h11
        have h15 := (he 15 (by decide)).trans h15
        have h16 := (he 16 (by decide)).trans h16
        have h17 := (he 17 (by decide)).trans h17
        have h18 := (he 18 (by decide)).trans h18
        have h19 := (he 19 (by decide)).trans h19
        have h21 := (he 21 (by decide)).trans h21
        have h22 := (he 22 (by decide)).trans h22
        have h23 := (he 23 (by decide)).trans h23
        have h61 := (he 61 (by decide)).trans h61
        have hF_ := hF_.ne (fun i h1 => he i (by omega))
        have hS_ := hS_.ne (fun i h1 h2 => he i (by omega))
        refine lv_aload_n hx hb dX10_worth_41 rfl (lv_at hl 0 rfl) ?_
        refine r_get (own := RX10) (T := TX10) (n := 9) (ci := 10) (v := .ref (ad 60)) hx hb hts nX10 hown hK hP (by decide) h0 rfl 4 (by decide) k1 rfl dX10_worth_42 ?_
        refine r_getN (own := RX10) (T := TX6) (n := 13) (ci := 6) (v := .long q7.2.1) hx hb hts nX6 hown hK hP (by decide) h60 rfl 8 (by decide) k3 rfl dX10_worth_45 ?_
        refine lv_lconst (v := 0) hx hb dX10_worth_48 (by decide) ?_
        refine W.lcmp hx hb dX10_worth_49 ?_
        refine lv_if_ne (tgt := 57) hx hb dX10_worth_50 (by decide) (fun c8 => ?_) (fun c8 => ?_)
        · have hf := ie_e c8 hf
          refine lv_aload_n hx hb dX10_worth_57 rfl (lv_at hl 0 rfl) ?_
          refine r_get (own := RX10) (T := TX10) (n := 9) (ci := 10) (v := .ref (ad 85)) hx hb hts nX10 hown hK hP (by decide) h0 rfl 8 (by decide) k5 rfl dX10_worth_58 ?_
          refine lv_iload_n hx hb dX10_worth_61 rfl (lv_at hl 1 rfl) ?_
          refine lv_iload_n hx hb dX10_worth_62 rfl (lv_at hl 2 rfl) ?_
          refine lv_iload_n hx hb dX10_worth_63 rfl (lv_at hl 3 rfl) ?_
          refine lv_iload hx hb dX10_worth_64 (lv_at hl 4 rfl) ?_
          refine lv_iconst (v := 1) hx hb dX10_worth_66 (by decide) ?_
          obtain ⟨q9, hq9, hf⟩ := bd_e hf
          refine k_vW (va_runV (C := RX1) (As := [.int p0, .int p1, .int p2, .int p3, .int 1]) (rest := []) ⟨hx, hb, hml, hown, hts⟩ (c_X1_put (l := l) (sz := H.size) (p0 := p0) (p1 := p1) (p2 := p2) (p3 := p3) (p4 := 1) (b := 85) hI bz1 isFB_a hF_ hq9) (cwV 5 hts gX10_worth_X1_put rfl rfl rfl (by decide +kernel) ⟨Nat.le_of_ble_eq_true rfl, Nat.le_of_ble_eq_true rfl⟩) (preV_of hK hP (isFB_0 isFB_a) (hF_ 85 isFB_a) rfl) rfl rfl hl.1 rfl (lv_room (Nat.le_of_ble_eq_true rfl)) dX10_worth_67 ⟨Nat.le_refl _, Nat.le_refl _⟩) hA hAd hS (fun C H locs hP hS hpo => ?_)
          obtain ⟨he, hF_⟩ := hpo
          have hag : ∀ i : Nat, i ≠ 60 ∧ i ≠ 65 ∧ (i < 67 ∨ 76 < i) ∧ i ≠ 85 → C i = C0 i := fun i h => (he i (by omega)).trans (hag i h)
          have h0 := (he 0 (by decide)).trans h0
          have h5 := (he 5 (by decide)).trans h5
          have h11 := (he 11 (by decide)).trans h11
          have h15 := (he 15 (by decide)).trans h15
          have h16 := (he 16 (by decide)).trans h16
          have h17 := (he 17 (by decide)).trans h17
          have h18 := (he 18 (by decide)).trans h18
          have h19 := (he 19 (by decide)).trans h19
          have h21 := (he 21 (by decide)).trans h21
          have h22 := (he 22 (by decide)).trans h22
          have h23 := (he 23 (by decide)).trans h23
          have h60 := (he 60 (by decide)).trans h60
          have h61 := (he 61 (by decide)).trans h61
          have h65 := (he 65 (by decide)).trans h65
          have hS_ := hS_.ne (fun i h1 h2 => he i (by omega))
          refine lv_aload_n hx hb dX10_worth_70 rfl (lv_at hl 0 rfl) ?_
          refine r_get (own := RX10) (T := TX10) (n := 9) (ci := 10) (v := .ref (ad 60)) hx hb hts nX10 hown hK hP (by decide) h0 rfl 4 (by decide) k1 rfl dX10_worth_71 ?_
          refine lv_aload_n hx hb dX10_worth_74 rfl (lv_at hl 0 rfl) ?_
          refine r_get (own := RX10) (T := TX10) (n := 9) (ci := 10) (v := .ref (ad 85)) hx hb hts nX10 hown hK hP (by decide) h0 rfl 8 (by decide) k5 rfl dX10_worth_75 ?_
          obtain ⟨q10, hq10, hf⟩ := bd_e hf
          refine k_lR (va_runV (C := RX6) (As := [.ref (ad 85)]) (rest := []) ⟨hx, hb, hml, hown, hts⟩ (c_X6_tenthsOf (l := l) (sz := H.size) (p0 := 85) isFB_a h5 h15 h16 h17 h18 h21 h22 h23 h60 h65 hF_ hS_ hq10) (cwV 1 hts gX10_worth_X6_tenthsOf rfl rfl rfl (by decide +kernel) ⟨Nat.le_of_ble_eq_true rfl, Nat.le_of_ble_eq_true rfl⟩) (preV_of hK hP (by decide) h60 rfl) rfl rfl hl.1 rfl (lv_room (Nat.le_of_ble_eq_true rfl)) dX10_worth_78 ⟨Nat.le_refl _, Nat.le_refl _⟩) hA hP hS (fun H locs hP hS => ?_)
          refine lv_ldc2 (own := RX10) hx hb hown k6 dX10_worth_81 ?_
          refine lv_aload_n hx hb dX10_worth_84 rfl (lv_at hl 0 rfl) ?_
          refine r_get (own := RX10) (T := TX10) (n := 9) (ci := 10) (v := .ref (ad 60)) hx hb hts nX10 hown hK hP (by decide) h0 rfl 4 (by decide) k1 rfl dX10_worth_85 ?_
          refine r_getN (own := RX10) (T := TX6) (n := 13) (ci := 6) (v := .long q7.2.1) hx hb hts nX6 hown hK hP (by decide) h60 rfl 8 (by decide) k3 rfl dX10_worth_88 ?_
          refine lv_lmul hx hb dX10_worth_91 ?_
          refine lv_iload hx hb dX10_worth_92 (lv_at hl 5 rfl) ?_
          obtain ⟨q11, hq11, hf⟩ := bd_e hf
          refine k_lR (va_runS (As := [.long q10, .long ((10 : Int64) * q7.2.1), .int p4]) (rest := []) ⟨hx, hb, hml, hown, hts⟩ (c_X10_lowest (l := l) (sz := H.size) (p0 := q10) (p1 := ((10 : Int64) * q7.2.1)) (p2 := p4) hq11) (va_cwS 3 hts gX10_worth_X10_lowest rfl rfl rfl (by decide +kernel) ⟨Nat.le_of_ble_eq_true rfl, Nat.le_of_ble_eq_true rfl⟩) preS0 rfl rfl hl.1 rfl (lv_room (Nat.le_of_ble_eq_true rfl)) dX10_worth_94 ⟨Nat.le_refl _, Nat.le_refl _⟩) hA hP hS (fun H locs hP hS => ?_)
          obtain rfl := Option.some.inj hf
          rw [← hQ]
          exact e_lW hx hb hr rfl hP hS ⟨hag, h60, h65, hF_⟩ hlocks dX10_worth_97
        · have hf := it_e c8 hf
          refine lv_ldc2 (own := RX10) hx hb hown k7 dX10_worth_53 ?_
          obtain rfl := Option.some.inj hf
          rw [← hQ]
          exact e_lW hx hb hr rfl hP hS ⟨hag, h60, h65, hF_⟩ hlocks dX10_worth_56
      · have hf := it_e c6 hf
        refine lv_ldc2 (own := RX10) hx hb hown k0 dX10_worth_30 ?_
        obtain rfl := Option.some.inj hf
        rw [← hQ]
        exact e_lW hx hb hr rfl hP hS ⟨hag, h60, h65, hF_⟩ hlocks dX10_worth_33
  · have hf := it_e c2 hf
    refine lv_ldc2 (own := RX10) hx hb hown k8 dX10_worth_7 ?_
    obtain rfl := Option.some.inj hf
    rw [← hQ]
    exact e_lW hx hb hr rfl hP hS ⟨hag, h60, h65, hF_⟩ hlocks dX10_worth_10

