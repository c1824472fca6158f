def LX3_answerAll_6 (p0 : Int32) (p1 : Int32) (p2 : Int32) (t_down : Nat → Int32) (t_pac : Nat → Int32) (w_src : Int32) (w_over : Nat → Int32) (ko : Int32 → Int32 → (Nat → Int32) → Option (Int32 × (Nat → Int32))) : Nat → Int32 → Int32 → (Nat → Int32) → Option (Int32 × (Nat → Int32))
  | 0, _, _, _ => none
  | n + 1, x1, x2, f3 =>
    if 12 ≤ x2 then
      ko x1 x2 f3
    else
      (f_X10_has w_src x2).bind fun q8 =>
      (if q8 = 0 then
        some (x1, f3)
      else
        (f_X3_answersOf x2 p0 p1 p2 t_down t_pac w_over).bind fun q12 =>
        wi f3 12 (x1) (q12) fun f13 =>
        lt (x1 + 1 : Int32) fun x15 =>
        some (x15, f13) : Option (Int32 × (Nat → Int32))).bind fun q9 =>
      lt (x2 + 1 : Int32) fun x10 =>
      LX3_answerAll_6 p0 p1 p2 t_down t_pac w_src w_over ko n q9.1 x10 q9.2
theorem LX3_answerAll_6_z (p0 : Int32) (p1 : Int32) (p2 : Int32) (t_down : Nat → Int32) (t_pac : Nat → Int32) (w_src : Int32) (w_over : Nat → Int32) (ko : Int32 → Int32 → (Nat → Int32) → Option (Int32 × (Nat → Int32))) (x1 : Int32) (x2 : Int32) (f3 : Nat → Int32) : LX3_answerAll_6 p0 p1 p2 t_down t_pac w_src w_over ko 0 x1 x2 f3 = none := rfl
theorem LX3_answerAll_6_s (p0 : Int32) (p1 : Int32) (p2 : Int32) (t_down : Nat → Int32) (t_pac : Nat → Int32) (w_src : Int32) (w_over : Nat → Int32) (ko : Int32 → Int32 → (Nat → Int32) → Option (Int32 × (Nat → Int32))) (n : Nat) (x1 : Int32) (x2 : Int32) (f3 : Nat → Int32) : LX3_answerAll_6 p0 p1 p2 t_down t_pac w_src w_over ko (n + 1) x1 x2 f3 =
    if 12 ≤ x2 then
      ko x1 x2 f3
    else
      (f_X10_has w_src x2).bind fun q8 =>
      (if q8 = 0 then
        some (x1, f3)
      else
        (f_X3_answersOf x2 p0 p1 p2 t_down t_pac w_over).bind fun q12 =>
        wi f3 12 (x1) (q12) fun f13 =>
        lt (x1 + 1 : Int32) fun x15 =>
        some (x15, f13) : Option (Int32 × (Nat → Int32))).bind fun q9 =>
      lt (x2 + 1 : Int32) fun x10 =>
      LX3_answerAll_6 p0 p1 p2 t_down t_pac w_src w_over ko n q9.1 x10 q9.2 := rfl
def f_X3_answerAll (p0 : Int32) (p1 : Int32) (p2 : Int32) (t_down : Nat → Int32) (t_pac : Nat → Int32) (w_src : Int32) (w_over : Nat → Int32) (l_kinds : Nat → Int32) : Option (Int32 × (Nat → Int32)) :=
  LX3_answerAll_6 p0 p1 p2 t_down t_pac w_src w_over (fun x4 x5 f6 =>
    some (x4, f6)) FU 0 0 l_kinds
abbrev rmX3_answerAll : Room := { frames := 2, cells := 0, slots := 0, locals := 53 }
set_option maxHeartbeats 4000000 in
set_option maxRecDepth 100000 in
theorem c_X3_answerAll {l : Launch} {D : va_G} {g : Nat → ClassId} {N : Nat} {ad : Nat → Nat} {C : Nat → va_E} {sz : Nat} {t_there : Int32} {t_lift : Int32} {t_none : Int32} {t_down : Nat → Int32} {t_pac : Nat → Int32} {w_src : Int32} {w_over : Nat → Int32} {l_kinds : Nat → Int32} {p0 : Int32} {p1 : Int32} {p2 : Int32} {rr : Int32 × (Nat → Int32)} (hN : 86 ≤ N) (hI : Inj N ad) (h5 : C 5 = .inr (7, [.ref (ad 6), .ref (ad 7), .ref (ad 8), .ref (ad 9), .ref (ad 10), .ref (ad 11), .ref (ad 12), .ref (ad 13), .ref (ad 14), .ref (ad 15), .ref (ad 16), .ref (ad 17), .ref (ad 18), .int t_there, .int t_lift, .int t_none])) (h6 : C 6 = aI g 12 t_down) (h8 : C 8 = aI g 12 t_pac) (h19 : C 19 = .inr (9, [.ref (ad 5), .ref (ad 20), .int w_src])) (h20 : C 20 = aI g 12 w_over) (h81 : C 81 = .inr (3, [.ref (ad 5), .ref (ad 19), .ref (ad 82), .ref (ad 83)])) (h82 : C 82 = aI g 12 l_kinds) (hf : f_X3_answerAll p0 p1 p2 t_down t_pac w_src w_over l_kinds = some rr) : Met l yX3_answerAll wsX3_answerAll rmX3_answerAll (PcW D g N ad C sz [.ref (ad 81), .int p0, .int p1, .int p2]) (QiW D N ad sz tP rr.1 (fun C' => (∀ i : Nat, i ≠ 82 → C' i = C i) ∧ (C' 82 = aI g 12 rr.2))) 0 0 (Aw N ad sz) := by
  refine Met.ofW (cc := cX3_answerAll) (maxL := 6) (ret := (some .int)) (by decide) rfl ?_
  intro p e s m args below meth c s₁ B hml hv
  obtain ⟨hav, hsz, hK, hP⟩ := hv
  subst hsz
  have hx := B.exec
  have hb := B.bytes
  have hr := B.returns
  have hts := atoms_spec (ws := wsX3_answerAll) B.pre
  have hown : s.vm.findClass RX3 = some m.cls := findClass_of_methodNamed B.named
  have hlocks := B.notSynchronized
  generalize hQ : MQ below (QiW D N ad s.heap.size tP rr.1 (fun C' => (∀ i : Nat, i ≠ 82 → C' i = C i) ∧ (C' 82 = aI g 12 rr.2))) args s 0 0 (Aw N ad s.heap.size) = QQ
  have hS : va_S (Aw N ad s.heap.size) s.heap s.heap [] := va_S.rf
  have hA : ∀ q, s.heap.size ≤ q → (Aw N ad s.heap.size) q := fun q h => Or.inr h
  have hAd : ∀ j : Nat, j < N → (Aw N ad s.heap.size) (ad j) := fun j h => Or.inl ⟨j, h, rfl⟩
  obtain ⟨C0, hC0⟩ : ∃ C0 : Nat → va_E, C0 = C := ⟨_, rfl⟩
  have hag : ∀ i : Nat, i ≠ 82 → C i = C0 i := fun i _ => by rw [hC0]
  rw [← hC0] at hQ
  have k0 := hts (.fieldLink RX3 22 "UpDrain$Lids" "ways" "LUpDrain$Ways;") (List.mem_of_getElem? (i := 1) rfl)
  have nX3 : ∀ w ∈ u_ws RX3 TX3 4, w ∈ wsX3_answerAll := fun _ h => List.mem_cons_of_mem _ (List.mem_append_left _ (List.mem_append_left _ (List.mem_append_right _ h)))
  have k2 := nf_54 (A := args) hK
  have nX9 : ∀ w ∈ u_ws RX9 TX9 3, w ∈ wsX3_answerAll := fun _ h => List.mem_cons_of_mem _ (List.mem_append_left _ (List.mem_append_right _ h))
  have k4 := nm_9 hK
  have k5 := hts (.initialized RX10) (List.mem_of_getElem? (i := 4) rfl)
  have k6 := hts (.static yX10_has) (List.mem_of_getElem? (i := 3) rfl)
  have k7 := hts (.fieldLink RX3 9 "UpDrain$Lids" "kinds" "[I") (List.mem_of_getElem? (i := 2) rfl)
  have hE := lg_entry_eq m [.ref (ad 81), .int p0, .int p1, .int p2] 6
  rw [← hav] at hE
  rw [hE]
  have hl := lv_entry [.ref (ad 81), .int p0, .int p1, .int p2] (n := 6) (Nat.le_of_ble_eq_true rfl)
  generalize (lg_sl [.ref (ad 81), .int p0, .int p1, .int p2] ++ List.replicate (6 - (lg_sl [.ref (ad 81), .int p0, .int p1, .int p2]).length) Slot.unset).toArray = ls at hl ⊢
  have hl : lv_has ls 6 [(0, .ref (ad 81)), (1, .int p0), (2, .int p1), (3, .int p2)] := hl
  clear hE
  unfold f_X3_answerAll at hf
  suffices hgo : ∀ (H : Heap) (locs : List Loc), va_P D vwCl (wd N ad C) H → va_S (Aw N ad s.heap.size) s.heap H locs → W p l e (headSpec wsX3_answerAll rmX3_answerAll).room s m args below meth c H locs 0 0 QQ (F0 m 0 ls []) from hgo s.heap [] hP hS
  clear hS hP
  intro H locs hP hS
  refine lv_iconst (v := 0) hx hb dX3_answerAll_0 (by decide) ?_
  refine lv_istore (lv' := [(4, .int 0), (0, .ref (ad 81)), (1, .int p0), (2, .int p1), (3, .int p2)]) hx hb dX3_answerAll_1 hl (by decide) rfl (fun ls hl => ?_)
  refine lv_iconst (v := 0) hx hb dX3_answerAll_3 (by decide) ?_
  refine lv_istore (lv' := [(5, .int 0), (4, .int 0), (0, .ref (ad 81)), (1, .int p0), (2, .int p1), (3, .int p2)]) hx hb dX3_answerAll_4 hl (by decide) rfl (fun ls hl => ?_)
  have key6 : ∀ (ko : Int32 → Int32 → (Nat → Int32) → Option (Int32 × (Nat → Int32))), (∀ (x4 : Int32) (x5 : Int32) (f6 : Nat → Int32) (C : Nat → va_E) (H : Heap) (locs : List Loc) (ls : Array Slot), va_P D vwCl (wd N ad C) H → va_S (Aw N ad s.heap.size) s.heap H locs → (∀ i : Nat, i ≠ 82 → C i = C0 i) → C 5 = .inr (7, [.ref (ad 6), .ref (ad 7), .ref (ad 8), .ref (ad 9), .ref (ad 10), .ref (ad 11), .ref (ad 12), .ref (ad 13), .ref (ad 14), .ref (ad 15), .ref (ad 16), .ref (ad 17), .ref (ad 18), .int t_there, .int t_lift, .int t_none]) → C 6 = aI g 12 t_down → C 8 = aI g 12 t_pac → C 19 = .inr (9, [.ref (ad 5), .ref (ad 20), .int w_src]) → C 20 = aI g 12 w_over → C 81 = .inr (3, [.ref (ad 5), .ref (ad 19), .ref (ad 82), .ref (ad 83)]) → C 82 = aI g 12 f6 → lv_has ls 6 [(0, .ref (ad 81)), (1, .int p0), (2, .int p1), (3, .int p2), (4, .int x4), (5, .int x5)] → ko x4 x5 f6 = some rr → W p l e (headSpec wsX3_answerAll rmX3_answerAll).room s m args below meth c H locs 0 0 QQ (F0 m 53 ls [])) → ∀ (n : Nat) (x1 : Int32) (x2 : Int32) (f3 : Nat → Int32) (C : Nat → va_E) (H : Heap) (locs : List Loc) (ls : Array Slot), va_P D vwCl (wd N ad C) H → va_S (Aw N ad s.heap.size) s.heap H locs → (∀ i : Nat, i ≠ 82 → C i = C0 i) → C 5 = .inr (7, [.ref (ad 6), .ref (ad 7), .ref (ad 8), .ref (ad 9), .ref (ad 10), .ref (ad 11), .ref (ad 12), .ref (ad 13), .ref (ad 14), .ref (ad 15), .ref (ad 16), .ref (ad 17), .ref (ad 18), .int t_there, .int t_lift, .int t_none]) → C 6 = aI g 12 t_down → C 8 = aI g 12 t_pac → C 19 = .inr (9, [.ref (ad 5), .ref (ad 20), .int w_src]) → C 20 = aI g 12 w_over → C 81 = .inr (3, [.ref (ad 5), .ref (ad 19), .ref (ad 82), .ref (ad 83)]) → C 82 = aI g 12 f3 → lv_has ls 6 [(0, .ref (ad 81)), (1, .int p0), (2, .int p1), (3, .int p2), (4, .int x1), (5, .int x2)] → LX3_answerAll_6 p0 p1 p2 t_down t_pac w_src w_over ko n x1 x2 f3 = some rr → W p l e (headSpec wsX3_answerAll rmX3_answerAll).room s m args below meth c H locs 0 0 QQ (F0 m 6 ls []) := by
    intro ko hko n
    induction n with
    | zero =>
      intro x1 x2 f3 C H locs ls hP hS hag h5 h6 h8 h19 h20 h81 h82 hl hf
      rw [LX3_answerAll_6_z] at hf
      cases hf
    | succ n ih =>
      intro x1 x2 f3 C H locs ls hP hS hag h5 h6 h8 h19 h20 h81 h82 hl hf
      rw [LX3_answerAll_6_s] at hf
      refine lv_iload hx hb dX3_answerAll_6 (lv_at hl 5 rfl) ?_
      refine lv_bipush (v := 12) hx hb dX3_answerAll_8 (by decide) ?_
      refine lv_icmp_ge (tgt := 53) hx hb dX3_answerAll_10 (by decide) (fun c7 => ?_) (fun c7 => ?_)
      · have hf := it_e c7 hf
        exact hko x1 x2 f3 C H locs ls hP hS hag h5 h6 h8 h19 h20 h81 h82 (lv_sub hl [0, 1, 2, 3, 4, 5] rfl) hf
      · have hf := ie_e c7 hf
        refine lv_aload_n hx hb dX3_answerAll_13 rfl (lv_at hl 0 rfl) ?_
        refine r_get (own := RX3) (T := TX3) (n := 4) (ci := 3) (v := .ref (ad 19)) hx hb hts nX3 hown hK hP (by omega) h81 rfl 1 (by decide) k0 rfl dX3_answerAll_14 ?_
        refine r_getN (own := RX3) (T := TX9) (n := 3) (ci := 9) (v := .int w_src) hx hb hts nX9 hown hK hP (by omega) h19 rfl 2 (by decide) k2 rfl dX3_answerAll_17 ?_
        refine lv_iload hx hb dX3_answerAll_20 (lv_at hl 5 rfl) ?_
        obtain ⟨q8, hq8, hf⟩ := bd_e hf
        refine k_iR (va_runSN (As := [.int w_src, .int x2]) (rest := []) ⟨hx, hb, hml, hown, hts⟩ (c_X10_has (l := l) (sz := H.size) (p0 := w_src) (p1 := x2) hq8) ⟨va_cnB 2 hts gX3_answerAll_X10_has_n35 rfl rfl rfl k4 k5 (by decide +kernel) ⟨Nat.le_of_ble_eq_true rfl, Nat.le_of_ble_eq_true rfl⟩, k6, trivial⟩ preS0 rfl rfl hl.1 rfl (lv_room (Nat.le_of_ble_eq_true rfl)) dX3_answerAll_22 ⟨Nat.le_of_ble_eq_true rfl, Nat.le_of_ble_eq_true rfl⟩) hA hP hS (fun H locs hP hS hbz_q8 => ?_)
        obtain ⟨q9, htq9, hf⟩ := bd_e hf
        have jnq9 : ∀ (C : Nat → va_E) (H : Heap) (locs : List Loc) (ls : Array Slot), va_P D vwCl (wd N ad C) H → va_S (Aw N ad s.heap.size) s.heap H locs → (∀ i : Nat, i ≠ 82 → C i = C0 i) → C 5 = .inr (7, [.ref (ad 6), .ref (ad 7), .ref (ad 8), .ref (ad 9), .ref (ad 10), .ref (ad 11), .ref (ad 12), .ref (ad 13), .ref (ad 14), .ref (ad 15), .ref (ad 16), .ref (ad 17), .ref (ad 18), .int t_there, .int t_lift, .int t_none]) → C 6 = aI g 12 t_down → C 8 = aI g 12 t_pac → C 19 = .inr (9, [.ref (ad 5), .ref (ad 20), .int w_src]) → C 20 = aI g 12 w_over → C 81 = .inr (3, [.ref (ad 5), .ref (ad 19), .ref (ad 82), .ref (ad 83)]) → C 82 = aI g 12 q9.2 → lv_has ls 6 [(0, .ref (ad 81)), (1, .int p0), (2, .int p1), (3, .int p2), (4, .int q9.1), (5, .int x2)] → W p l e (headSpec wsX3_answerAll rmX3_answerAll).room s m args below meth c H locs 0 0 QQ (F0 m 47 ls []) := by
          intro C H locs ls hP hS hag h5 h6 h8 h19 h20 h81 h82 hl
          obtain ⟨x10, ex10, hf⟩ := lt_e hf
          refine lv_iinc (v := x10) (lv' := [(5, .int x10), (0, .ref (ad 81)), (1, .int p0), (2, .int p1), (3, .int p2), (4, .int q9.1)]) hx hb dX3_answerAll_47 hl (k := 5) rfl (by rw [ex10]; rfl) (by decide) rfl (fun ls hl => ?_)
          refine lv_goto (tgt := 6) hx hb dX3_answerAll_50 (by decide) ?_
          exact ih q9.1 x10 q9.2 C H locs ls hP hS hag h5 h6 h8 h19 h20 h81 h82 (lv_sub hl [1, 2, 3, 4, 5, 0] rfl) hf
        clear hf
        have hf := htq9
        refine lv_if_eq (tgt := 47) hx hb dX3_answerAll_25 (by decide) (fun c11 => ?_) (fun c11 => ?_)
        · have hf := it_e c11 hf
          obtain rfl := Option.some.inj hf
          exact jnq9 C H locs ls hP hS hag h5 h6 h8 h19 h20 h81 h82 (lv_sub hl [0, 1, 2, 3, 4, 5] rfl)
        · have hf := ie_e c11 hf
          refine lv_aload_n hx hb dX3_answerAll_28 rfl (lv_at hl 0 rfl) ?_
          refine r_get (own := RX3) (T := TX3) (n := 4) (ci := 3) (v := .ref (ad 82)) hx hb hts nX3 hown hK hP (by omega) h81 rfl 2 (by decide) k7 rfl dX3_answerAll_29 ?_
          refine lv_iload hx hb dX3_answerAll_32 (lv_at hl 4 rfl) ?_
          refine lv_aload_n hx hb dX3_answerAll_34 rfl (lv_at hl 0 rfl) ?_
          refine lv_iload hx hb dX3_answerAll_35 (lv_at hl 5 rfl) ?_
          refine lv_iload_n hx hb dX3_answerAll_37 rfl (lv_at hl 1 rfl) ?_
          refine lv_iload_n hx hb dX3_answerAll_38 rfl (lv_at hl 2 rfl) ?_
          refine lv_iload_n hx hb dX3_answerAll_39 rfl (lv_at hl 3 rfl) ?_
          obtain ⟨q12, hq12, hf⟩ := bd_e hf
          refine k_iR (va_runV (C := RX3) (As := [.int x2, .int p0, .int p1, .int p2]) (rest := [.int x1, .ref (ad 82)]) ⟨hx, hb, hml, hown, hts⟩ (c_X3_answersOf (l := l) (sz := H.size) (p0 := x2) (p1 := p0) (p2 := p1) (p3 := p2) hN h5 h6 h8 h19 h20 h81 hq12) (cwV 4 hts gX3_answerAll_X3_answersOf rfl rfl rfl (by decide +kernel) ⟨Nat.le_of_ble_eq_true rfl, Nat.le_of_ble_eq_true rfl⟩) (preV_of hK hP (by omega) h81 rfl) rfl rfl hl.1 rfl (lv_room (Nat.le_of_ble_eq_true rfl)) dX3_answerAll_40 ⟨Nat.le_of_ble_eq_true rfl, Nat.le_of_ble_eq_true rfl⟩) hA hP hS (fun H locs hP hS hbz_q12 => ?_)
          obtain ⟨i14, f13, ef13, hf⟩ := wi_e hf
          refine r_iast hx hb hK hI hAd hP hS (by omega) h82 i14 dX3_answerAll_43 ef13 (fun C H locs hP hS he hn => ?_)
          have hag : ∀ i : Nat, i ≠ 82 → C i = C0 i := fun i h => (he i (by omega)).trans (hag i h)
          have h5 := (he 5 (by decide)).trans h5
          have h6 := (he 6 (by decide)).trans h6
          have h8 := (he 8 (by decide)).trans h8
          have h19 := (he 19 (by decide)).trans h19
          have h20 := (he 20 (by decide)).trans h20
          have h81 := (he 81 (by decide)).trans h81
          have h82 : C 82 = aI g 12 f13 := hn
          obtain ⟨x15, ex15, hf⟩ := lt_e hf
          refine lv_iinc (v := x15) (lv' := [(4, .int x15), (0, .ref (ad 81)), (1, .int p0), (2, .int p1), (3, .int p2), (5, .int x2)]) hx hb dX3_answerAll_44 hl (k := 4) rfl (by rw [ex15]; rfl) (by decide) rfl (fun ls hl => ?_)
          obtain rfl := Option.some.inj hf
          exact jnq9 C H locs ls hP hS hag h5 h6 h8 h19 h20 h81 h82 (lv_sub hl [1, 2, 3, 4, 0, 5] rfl)
  refine key6 _ (fun x4 x5 f6 C H locs ls hP hS hag h5 h6 h8 h19 h20 h81 h82 hl hf => ?_) FU 0 0 l_kinds C H locs ls hP hS hag h5 h6 h8 h19 h20 h81 h82 (lv_sub hl [2, 3, 4, 5, 1, 0] rfl) hf
  refine lv_iload hx hb dX3_answerAll_53 (lv_at hl 4 rfl) ?_
  obtain rfl := Option.some.inj hf
  rw [← hQ]
  exact e_iW hx hb hr rfl (tP_i _) hP hS ⟨hag, h82⟩ hlocks dX3_answerAll_55

def LX3_likeAhead_5 (p0 : Int32) (p1 : Int32) (l_kinds : Nat → Int32) (ko : Int32 → Int32 → Option (Int32)) : Nat → Int32 → Int32 → Option (Int32)
  | 0, _, _ => none
  | n + 1, x1, x2 =>
    if p1 ≤ x2 then
      ko x1 x2
    else
      ri l_kinds 12 (x2) fun x6 =>
      ri l_kinds 12 (p0) fun x8 =>
      (if x6 = x8 then
        some (1)
      else
        some (0) : Option (Int32)).bind fun q10 =>
      lt ((x1 + q10) : Int32) fun x11 =>
      lt (x2 + 1 : Int32) fun x12 =>
      LX3_likeAhead_5 p0 p1 l_kinds ko n x11 x12
theorem LX3_likeAhead_5_z (p0 : Int32) (p1 : Int32) (l_kinds : Nat → Int32) (ko : Int32 → Int32 → Option (Int32)) (x1 : Int32) (x2 : Int32) : LX3_likeAhead_5 p0 p1 l_kinds ko 0 x1 x2 = none := rfl
theorem LX3_likeAhead_5_s (p0 : Int32) (p1 : Int32) (l_kinds : Nat → Int32) (ko : Int32 → Int32 → Option (Int32)) (n : Nat) (x1 : Int32) (x2 : Int32) : LX3_likeAhead_5 p0 p1 l_kinds ko (n + 1) x1 x2 =
    if p1 ≤ x2 then
      ko x1 x2
    else
      ri l_kinds 12 (x2) fun x6 =>
      ri l_kinds 12 (p0) fun x8 =>
      (if x6 = x8 then
        some (1)
      else
        some (0) : Option (Int32)).bind fun q10 =>
      lt ((x1 + q10) : Int32) fun x11 =>
      lt (x2 + 1 : Int32) fun x12 =>
      LX3_likeAhead_5 p0 p1 l_kinds ko n x11 x12 := rfl
def f_X3_likeAhead (p0 : Int32) (p1 : Int32) (l_kinds : Nat → Int32) : Option (Int32) :=
  LX3_likeAhead_5 p0 p1 l_kinds (fun x3 x4 =>
    some (x3)) FU 0 0
abbrev rmX3_likeAhead : Room := { frames := 0, cells := 0, slots := 0, locals := 0 }
set_option maxHeartbeats 4000000 in
set_option maxRecDepth 100000 in
theorem c_X3_likeAhead {l : Launch} {D : va_G} {g : Nat → ClassId} {N : Nat} {ad : Nat → Nat} {C : Nat → va_E} {sz : Nat} {l_kinds : Nat → Int32} {p0 : Int32} {p1 : Int32} {rr : Int32} (hN : 86 ≤ N) (h81 : C 81 = .inr (3, [.ref (ad 5), .ref (ad 19), .ref (ad 82), .ref (ad 83)])) (h82 : C 82 = aI g 12 l_kinds) (hf : f_X3_likeAhead p0 p1 l_kinds = some rr) : Met l yX3_likeAhead wsX3_likeAhead rmX3_likeAhead (PcW D g N ad C sz [.ref (ad 81), .int p0, .int p1]) (QiR sz tP rr) 0 0 (An sz) := by
  refine Met.ofW (cc := cX3_likeAhead) (maxL := 5) (ret := (some .int)) (by decide) rfl ?_
  intro p e s m args below meth c s₁ B hml hv
  obtain ⟨hav, hsz, hK, hP⟩ := hv
  subst hsz
  have hx := B.exec
  have hb := B.bytes
  have hr := B.returns
  have hts := atoms_spec (ws := wsX3_likeAhead) B.pre
  have hown : s.vm.findClass RX3 = some m.cls := findClass_of_methodNamed B.named
  have hlocks := B.notSynchronized
  generalize hQ : MQ below (QiR s.heap.size tP rr) args s 0 0 (An s.heap.size) = QQ
  have hS : va_S (An s.heap.size) s.heap s.heap [] := va_S.rf
  have hA : ∀ q, s.heap.size ≤ q → (An s.heap.size) q := fun q h => h
  have k0 := hts (.fieldLink RX3 9 "UpDrain$Lids" "kinds" "[I") (List.mem_of_getElem? (i := 1) rfl)
  have nX3 : ∀ w ∈ u_ws RX3 TX3 4, w ∈ wsX3_likeAhead := fun _ h => List.mem_cons_of_mem _ (List.mem_append_right _ h)
  have hE := lg_entry_eq m [.ref (ad 81), .int p0, .int p1] 5
  rw [← hav] at hE
  rw [hE]
  have hl := lv_entry [.ref (ad 81), .int p0, .int p1] (n := 5) (Nat.le_of_ble_eq_true rfl)
  generalize (lg_sl [.ref (ad 81), .int p0, .int p1] ++ List.replicate (5 - (lg_sl [.ref (ad 81), .int p0, .int p1]).length) Slot.unset).toArray = ls at hl ⊢
  have hl : lv_has ls 5 [(0, .ref (ad 81)), (1, .int p0), (2, .int p1)] := hl
  clear hE
  unfold f_X3_likeAhead at hf
  suffices hgo : ∀ (H : Heap) (locs : List Loc), va_P D vwCl (wd N ad C) H → va_S (An s.heap.size) s.heap H locs → W p l e (headSpec wsX3_likeAhead rmX3_likeAhead).room s m args below meth c H locs 0 0 QQ (F0 m 0 ls []) from hgo s.heap [] hP hS
  clear hS hP
  intro H locs hP hS
  refine lv_iconst (v := 0) hx hb dX3_likeAhead_0 (by decide) ?_
  refine lv_istore_n (lv' := [(3, .int 0), (0, .ref (ad 81)), (1, .int p0), (2, .int p1)]) hx hb dX3_likeAhead_1 rfl hl (by decide) rfl (fun ls hl => ?_)
  refine lv_iconst (v := 0) hx hb dX3_likeAhead_2 (by decide) ?_
  refine lv_istore (lv' := [(4, .int 0), (3, .int 0), (0, .ref (ad 81)), (1, .int p0), (2, .int p1)]) hx hb dX3_likeAhead_3 hl (by decide) rfl (fun ls hl => ?_)
  have key5 : ∀ (ko : Int32 → Int32 → Option (Int32)), (∀ (x3 : Int32) (x4 : Int32) (C : Nat → va_E) (H : Heap) (locs : List Loc) (ls : Array Slot), va_P D vwCl (wd N ad C) H → va_S (An s.heap.size) s.heap H locs → C 81 = .inr (3, [.ref (ad 5), .ref (ad 19), .ref (ad 82), .ref (ad 83)]) → C 82 = aI g 12 l_kinds → lv_has ls 5 [(0, .ref (ad 81)), (1, .int p0), (2, .int p1), (3, .int x3), (4, .int x4)] → ko x3 x4 = some rr → W p l e (headSpec wsX3_likeAhead rmX3_likeAhead).room s m args below meth c H locs 0 0 QQ (F0 m 41 ls [])) → ∀ (n : Nat) (x1 : Int32) (x2 : Int32) (C : Nat → va_E) (H : Heap) (locs : List Loc) (ls : Array Slot), va_P D vwCl (wd N ad C) H → va_S (An s.heap.size) s.heap H locs → C 81 = .inr (3, [.ref (ad 5), .ref (ad 19), .ref (ad 82), .ref (ad 83)]) → C 82 = aI g 12 l_kinds → lv_has ls 5 [(0, .ref (ad 81)), (1, .int p0), (2, .int p1), (3, .int x1), (4, .int x2)] → LX3_likeAhead_5 p0 p1 l_kinds ko n x1 x2 = some rr → W p l e (headSpec wsX3_likeAhead rmX3_likeAhead).room s m args below meth c H locs 0 0 QQ (F0 m 5 ls []) := by
    intro ko hko n
    induction n with
    | zero =>
      intro x1 x2 C H locs ls hP hS h81 h82 hl hf
      rw [LX3_likeAhead_5_z] at hf
      cases hf
    | succ n ih =>
      intro x1 x2 C H locs ls hP hS h81 h82 hl hf
      rw [LX3_likeAhead_5_s] at hf
      refine lv_iload hx hb dX3_likeAhead_5 (lv_at hl 4 rfl) ?_
      refine lv_iload_n hx hb dX3_likeAhead_7 rfl (lv_at hl 2 rfl) ?_
      refine lv_icmp_ge (tgt := 41) hx hb dX3_likeAhead_8 (by decide) (fun c5 => ?_) (fun c5 => ?_)
      · have hf := it_e c5 hf
        exact hko x1 x2 C H locs ls hP hS h81 h82 (lv_sub hl [0, 1, 2, 3, 4] rfl) hf
      · have hf := ie_e c5 hf
        refine lv_iload_n hx hb dX3_likeAhead_11 rfl (lv_at hl 3 rfl) ?_
        refine lv_aload_n hx hb dX3_likeAhead_12 rfl (lv_at hl 0 rfl) ?_
        refine r_get (own := RX3) (T := TX3) (n := 4) (ci := 3) (v := .ref (ad 82)) hx hb hts nX3 hown hK hP (by omega) h81 rfl 2 (by decide) k0 rfl dX3_likeAhead_13 ?_
        refine lv_iload hx hb dX3_likeAhead_16 (lv_at hl 4 rfl) ?_
        obtain ⟨i7, x6, ex6, hf⟩ := ri_e hf
        refine r_iald hx hb hK hP (by omega) h82 i7 dX3_likeAhead_18 ex6 ?_
        refine lv_aload_n hx hb dX3_likeAhead_19 rfl (lv_at hl 0 rfl) ?_
        refine r_get (own := RX3) (T := TX3) (n := 4) (ci := 3) (v := .ref (ad 82)) hx hb hts nX3 hown hK hP (by omega) h81 rfl 2 (by decide) k0 rfl dX3_likeAhead_20 ?_
        refine lv_iload_n hx hb dX3_likeAhead_23 rfl (lv_at hl 1 rfl) ?_
        obtain ⟨i9, x8, ex8, hf⟩ := ri_e hf
        refine r_iald hx hb hK hP (by omega) h82 i9 dX3_likeAhead_24 ex8 ?_
        obtain ⟨q10, htq10, hf⟩ := bd_e hf
        have jnq10 : ∀ (C : Nat → va_E) (H : Heap) (locs : List Loc) (ls : Array Slot), va_P D vwCl (wd N ad C) H → va_S (An s.heap.size) s.heap H locs → C 81 = .inr (3, [.ref (ad 5), .ref (ad 19), .ref (ad 82), .ref (ad 83)]) → C 82 = aI g 12 l_kinds → lv_has ls 5 [(0, .ref (ad 81)), (1, .int p0), (2, .int p1), (3, .int x1), (4, .int x2)] → W p l e (headSpec wsX3_likeAhead rmX3_likeAhead).room s m args below meth c H locs 0 0 QQ (F0 m 33 ls [.int q10, .int x1]) := by
          intro C H locs ls hP hS h81 h82 hl
          refine lv_iadd hx hb dX3_likeAhead_33 ?_
          obtain ⟨x11, ex11, hf⟩ := lt_e hf
          refine tp_i ex11 ?_
          refine lv_istore_n (lv' := [(3, .int x11), (0, .ref (ad 81)), (1, .int p0), (2, .int p1), (4, .int x2)]) hx hb dX3_likeAhead_34 rfl hl (by decide) rfl (fun ls hl => ?_)
          obtain ⟨x12, ex12, hf⟩ := lt_e hf
          refine lv_iinc (v := x12) (lv' := [(4, .int x12), (3, .int x11), (0, .ref (ad 81)), (1, .int p0), (2, .int p1)]) hx hb dX3_likeAhead_35 hl (k := 4) rfl (by rw [ex12]; rfl) (by decide) rfl (fun ls hl => ?_)
          refine lv_goto (tgt := 5) hx hb dX3_likeAhead_38 (by decide) ?_
          exact ih x11 x12 C H locs ls hP hS h81 h82 (lv_sub hl [2, 3, 4, 1, 0] rfl) hf
        clear hf
        have hf := htq10
        refine lv_icmp_ne (tgt := 32) hx hb dX3_likeAhead_25 (by decide) (fun c13 => ?_) (fun c13 => ?_)
        · have hf := ie_e c13 hf
          refine lv_iconst (v := 0) hx hb dX3_likeAhead_32 (by decide) ?_
          obtain rfl := Option.some.inj hf
          exact jnq10 C H locs ls hP hS h81 h82 (lv_sub hl [0, 1, 2, 3, 4] rfl)
        · have hf := it_e c13 hf
          refine lv_iconst (v := 1) hx hb dX3_likeAhead_28 (by decide) ?_
          refine lv_goto (tgt := 33) hx hb dX3_likeAhead_29 (by decide) ?_
          obtain rfl := Option.some.inj hf
          exact jnq10 C H locs ls hP hS h81 h82 (lv_sub hl [0, 1, 2, 3, 4] rfl)
  refine key5 _ (fun x3 x4 C H locs ls hP hS h81 h82 hl hf => ?_) FU 0 0 C H locs ls hP hS h81 h82 (lv_sub hl [2, 3, 4, 1, 0] rfl) hf
  refine lv_iload_n hx hb dX3_likeAhead_41 rfl (lv_at hl 3 rfl) ?_
  obtain rfl := Option.some.inj hf
  rw [← hQ]
  exact e_iR hx hb hr rfl (tP_i _) hS hlocks dX3_likeAhead_42

def LX3_kindsIn_15 (q1 : Int32 × (Nat → Int32)) (ko : Int32 → Int32 → Option (Int32 × (Nat → Int32))) : Nat → Int32 → Int32 → Option (Int32 × (Nat → Int32))
  | 0, _, _ => none
  | n + 1, x2, x3 =>
    if q1.1 ≤ x3 then
      ko x2 x3
    else
      (f_X3_likeAhead x3 x3 q1.2).bind fun q7 =>
      (if q7 = 0 then
        some (1)
      else
        some (0) : Option (Int32)).bind fun q8 =>
      lt ((x2 + q8) : Int32) fun x9 =>
      lt (x3 + 1 : Int32) fun x10 =>
      LX3_kindsIn_15 q1 ko n x9 x10
theorem LX3_kindsIn_15_z (q1 : Int32 × (Nat → Int32)) (ko : Int32 → Int32 → Option (Int32 × (Nat → Int32))) (x2 : Int32) (x3 : Int32) : LX3_kindsIn_15 q1 ko 0 x2 x3 = none := rfl
theorem LX3_kindsIn_15_s (q1 : Int32 × (Nat → Int32)) (ko : Int32 → Int32 → Option (Int32 × (Nat → Int32))) (n : Nat) (x2 : Int32) (x3 : Int32) : LX3_kindsIn_15 q1 ko (n + 1) x2 x3 =
    if q1.1 ≤ x3 then
      ko x2 x3
    else
      (f_X3_likeAhead x3 x3 q1.2).bind fun q7 =>
      (if q7 = 0 then
        some (1)
      else
        some (0) : Option (Int32)).bind fun q8 =>
      lt ((x2 + q8) : Int32) fun x9 =>
      lt (x3 + 1 : Int32) fun x10 =>
      LX3_kindsIn_15 q1 ko n x9 x10 := rfl
def f_X3_kindsIn (p0 : Int32) (p1 : Int32) (p2 : Int32) (t_down : Nat → Int32) (t_pac : Nat → Int32) (w_src : Int32) (w_over : Nat → Int32) (l_kinds : Nat → Int32) : Option (Int32 × (Nat → Int32)) :=
  (f_X3_answerAll p0 p1 p2 t_down t_pac w_src w_over l_kinds).bind fun q1 =>
  LX3_kindsIn_15 q1 (fun x4 x5 =>
    some (x4, q1.2)) FU 0 0
abbrev rmX3_kindsIn : Room := { frames := 3, cells := 0, slots := 0, locals := 78 }
set_option maxHeartbeats 4000000 in
set_option maxRecDepth 100000 in
theorem c_X3_kindsIn {l : Launch} {D : va_G} {g : Nat → ClassId} {N : Nat} {ad : Nat → Nat} {C : Nat → va_E} {sz : Nat} {t_there : Int32} {t_lift : Int32} {t_none : Int32} {t_down : Nat → Int32} {t_pac : Nat → Int32} {w_src : Int32} {w_over : Nat → Int32} {l_kinds : Nat → Int32} {p0 : Int32} {p1 : Int32} {p2 : Int32} {rr : Int32 × (Nat → Int32)} (hN : 86 ≤ N) (hI : Inj N ad) (h5 : C 5 = .inr (7, [.ref (ad 6), .ref (ad 7), .ref (ad 8), .ref (ad 9), .ref (ad 10), .ref (ad 11), .ref (ad 12), .ref (ad 13), .ref (ad 14), .ref (ad 15), .ref (ad 16), .ref (ad 17), .ref (ad 18), .int t_there, .int t_lift, .int t_none])) (h6 : C 6 = aI g 12 t_down) (h8 : C 8 = aI g 12 t_pac) (h19 : C 19 = .inr (9, [.ref (ad 5), .ref (ad 20), .int w_src])) (h20 : C 20 = aI g 12 w_over) (h81 : C 81 = .inr (3, [.ref (ad 5), .ref (ad 19), .ref (ad 82), .ref (ad 83)])) (h82 : C 82 = aI g 12 l_kinds) (hf : f_X3_kindsIn p0 p1 p2 t_down t_pac w_src w_over l_kinds = some rr) : Met l yX3_kindsIn wsX3_kindsIn rmX3_kindsIn (PcW D g N ad C sz [.ref (ad 81), .int p0, .int p1, .int p2]) (QiW D N ad sz tP rr.1 (fun C' => (∀ i : Nat, i ≠ 82 → C' i = C i) ∧ (C' 82 = aI g 12 rr.2))) 0 0 (Aw N ad sz) := by
  refine Met.ofW (cc := cX3_kindsIn) (maxL := 7) (ret := (some .int)) (by decide) rfl ?_
  intro p e s m args below meth c s₁ B hml hv
  obtain ⟨hav, hsz, hK, hP⟩ := hv
  subst hsz
  have hx := B.exec
  have hb := B.bytes
  have hr := B.returns
  have hts := atoms_spec (ws := wsX3_kindsIn) B.pre
  have hown : s.vm.findClass RX3 = some m.cls := findClass_of_methodNamed B.named
  have hlocks := B.notSynchronized
  generalize hQ : MQ below (QiW D N ad s.heap.size tP rr.1 (fun C' => (∀ i : Nat, i ≠ 82 → C' i = C i) ∧ (C' 82 = aI g 12 rr.2))) args s 0 0 (Aw N ad s.heap.size) = QQ
  have hS : va_S (Aw N ad s.heap.size) s.heap s.heap [] := va_S.rf
  have hA : ∀ q, s.heap.size ≤ q → (Aw N ad s.heap.size) q := fun q h => Or.inr h
  have hAd : ∀ j : Nat, j < N → (Aw N ad s.heap.size) (ad j) := fun j h => Or.inl ⟨j, h, rfl⟩
  obtain ⟨C0, hC0⟩ : ∃ C0 : Nat → va_E, C0 = C := ⟨_, rfl⟩
  have hag : ∀ i : Nat, i ≠ 82 → C i = C0 i := fun i _ => by rw [hC0]
  rw [← hC0] at hQ
  have hE := lg_entry_eq m [.ref (ad 81), .int p0, .int p1, .int p2] 7
  rw [← hav] at hE
  rw [hE]
  have hl := lv_entry [.ref (ad 81), .int p0, .int p1, .int p2] (n := 7) (Nat.le_of_ble_eq_true rfl)
  generalize (lg_sl [.ref (ad 81), .int p0, .int p1, .int p2] ++ List.replicate (7 - (lg_sl [.ref (ad 81), .int p0, .int p1, .int p2]).length) Slot.unset).toArray = ls at hl ⊢
  have hl : lv_has ls 7 [(0, .ref (ad 81)), (1, .int p0), (2, .int p1), (3, .int p2)] := hl
  clear hE
  unfold f_X3_kindsIn at hf
  suffices hgo : ∀ (H : Heap) (locs : List Loc), va_P D vwCl (wd N ad C) H → va_S (Aw N ad s.heap.size) s.heap H locs → W p l e (headSpec wsX3_kindsIn rmX3_kindsIn).room s m args below meth c H locs 0 0 QQ (F0 m 0 ls []) from hgo s.heap [] hP hS
  clear hS hP
  intro H locs hP hS
  refine lv_aload_n hx hb dX3_kindsIn_0 rfl (lv_at hl 0 rfl) ?_
  refine lv_iload_n hx hb dX3_kindsIn_1 rfl (lv_at hl 1 rfl) ?_
  refine lv_iload_n hx hb dX3_kindsIn_2 rfl (lv_at hl 2 rfl) ?_
  refine lv_iload_n hx hb dX3_kindsIn_3 rfl (lv_at hl 3 rfl) ?_
  obtain ⟨q1, hq1, hf⟩ := bd_e hf
  refine k_iW (va_runV (C := RX3) (As := [.int p0, .int p1, .int p2]) (rest := []) ⟨hx, hb, hml, hown, hts⟩ (c_X3_answerAll (l := l) (sz := H.size) (p0 := p0) (p1 := p1) (p2 := p2) hN hI h5 h6 h8 h19 h20 h81 h82 hq1) (cwV 3 hts gX3_kindsIn_X3_answerAll rfl rfl rfl (by decide +kernel) ⟨Nat.le_of_ble_eq_true rfl, Nat.le_of_ble_eq_true rfl⟩) (preV_of hK hP (by omega) h81 rfl) rfl rfl hl.1 rfl (lv_room (Nat.le_of_ble_eq_true rfl)) dX3_kindsIn_4 ⟨Nat.le_of_ble_eq_true rfl, Nat.le_of_ble_eq_true rfl⟩) hA hAd hS (fun C H locs hP hS hpo hbz_q1 => ?_)
  obtain ⟨he, h82⟩ := hpo
  have hag : ∀ i : Nat, i ≠ 82 → C i = C0 i := fun i h => (he i (by omega)).trans (hag i h)
  have h5 := (he 5 (by decide)).trans h5
  have h6 := (he 6 (by decide)).trans h6
  have h8 := (he 8 (by decide)).trans h8
  have h19 := (he 19 (by decide)).trans h19
  have h20 := (he 20 (by decide)).trans h20
  have h81 := (he 81 (by decide)).trans h81
  refine lv_istore (lv' := [(4, .int q1.1), (0, .ref (ad 81)), (1, .int p0), (2, .int p1), (3, .int p2)]) hx hb dX3_kindsIn_7 hl (by decide) rfl (fun ls hl => ?_)
  refine lv_iconst (v := 0) hx hb dX3_kindsIn_9 (by decide) ?_
  refine lv_istore (lv' := [(5, .int 0), (4, .int q1.1), (0, .ref (ad 81)), (1, .int p0), (2, .int p1), (3, .int p2)]) hx hb dX3_kindsIn_10 hl (by decide) rfl (fun ls hl => ?_)
  refine lv_iconst (v := 0) hx hb dX3_kindsIn_12 (by decide) ?_
  refine lv_istore (lv' := [(6, .int 0), (5, .int 0), (4, .int q1.1), (0, .ref (ad 81)), (1, .int p0), (2, .int p1), (3, .int p2)]) hx hb dX3_kindsIn_13 hl (by decide) rfl (fun ls hl => ?_)
  have key15 : ∀ (ko : Int32 → Int32 → Option (Int32 × (Nat → Int32))), (∀ (x4 : Int32) (x5 : Int32) (C : Nat → va_E) (H : Heap) (locs : List Loc) (ls : Array Slot), va_P D vwCl (wd N ad C) H → va_S (Aw N ad s.heap.size) s.heap H locs → (∀ i : Nat, i ≠ 82 → C i = C0 i) → C 5 = .inr (7, [.ref (ad 6), .ref (ad 7), .ref (ad 8), .ref (ad 9), .ref (ad 10), .ref (ad 11), .ref (ad 12), .ref (ad 13), .ref (ad 14), .ref (ad 15), .ref (ad 16), .ref (ad 17), .ref (ad 18), .int t_there, .int t_lift, .int t_none]) → C 6 = aI g 12 t_down → C 8 = aI g 12 t_pac → C 19 = .inr (9, [.ref (ad 5), .ref (ad 20), .int w_src]) → C 20 = aI g 12 w_over → C 81 = .inr (3, [.ref (ad 5), .ref (ad 19), .ref (ad 82), .ref (ad 83)]) → C 82 = aI g 12 q1.2 → lv_has ls 7 [(0, .ref (ad 81)), (1, .int p0), (2, .int p1), (3, .int p2), (4, .int q1.1), (5, .int x4), (6, .int x5)] → ko x4 x5 = some rr → W p l e (headSpec wsX3_kindsIn rmX3_kindsIn).room s m args below meth c H locs 0 0 QQ (F0 m 49 ls [])) → ∀ (n : Nat) (x2 : Int32) (x3 : Int32) (C : Nat → va_E) (H : Heap) (locs : List Loc) (ls : Array Slot), va_P D vwCl (wd N ad C) H → va_S (Aw N ad s.heap.size) s.heap H locs → (∀ i : Nat, i ≠ 82 → C i = C0 i) → C 5 = .inr (7, [.ref (ad 6), .ref (ad 7), .ref (ad 8), .ref (ad 9), .ref (ad 10), .ref (ad 11), .ref (ad 12), .ref (ad 13), .ref (ad 14), .ref (ad 15), .ref (ad 16), .ref (ad 17), .ref (ad 18), .int t_there, .int t_lift, .int t_none]) → C 6 = aI g 12 t_down → C 8 = aI g 12 t_pac → C 19 = .inr (9, [.ref (ad 5), .ref (ad 20), .int w_src]) → C 20 = aI g 12 w_over → C 81 = .inr (3, [.ref (ad 5), .ref (ad 19), .ref (ad 82), .ref (ad 83)]) → C 82 = aI g 12 q1.2 → lv_has ls 7 [(0, .ref (ad 81)), (1, .int p0), (2, .int p1), (3, .int p2), (4, .int q1.1), (5, .int x2), (6, .int x3)] → LX3_kindsIn_15 q1 ko n x2 x3 = some rr → W p l e (headSpec wsX3_kindsIn rmX3_kindsIn).room s m args below meth c H locs 0 0 QQ (F0 m 15 ls []) := by
    intro ko hko n
    induction n with
    | zero =>
      intro x2 x3 C H locs ls hP hS hag h5 h6 h8 h19 h20 h81 h82 hl hf
      rw [LX3_kindsIn_15_z] at hf
      cases hf
    | succ n ih =>
      intro x2 x3 C H locs ls hP hS hag h5 h6 h8 h19 h20 h81 h82 hl hf
      rw [LX3_kindsIn_15_s] at hf
      refine lv_iload hx hb dX3_kindsIn_15 (lv_at hl 6 rfl) ?_
      refine lv_iload hx hb dX3_kindsIn_17 (lv_at hl 4 rfl) ?_
      refine lv_icmp_ge (tgt := 49) hx hb dX3_kindsIn_19 (by decide) (fun c6 => ?_) (fun c6 => ?_)
      · have hf := it_e c6 hf
        exact hko x2 x3 C H locs ls hP hS hag h5 h6 h8 h19 h20 h81 h82 (lv_sub hl [0, 1, 2, 3, 4, 5, 6] rfl) hf
      · have hf := ie_e c6 hf
        refine lv_iload hx hb dX3_kindsIn_22 (lv_at hl 5 rfl) ?_
        refine lv_aload_n hx hb dX3_kindsIn_24 rfl (lv_at hl 0 rfl) ?_
        refine lv_iload hx hb dX3_kindsIn_25 (lv_at hl 6 rfl) ?_
        refine lv_iload hx hb dX3_kindsIn_27 (lv_at hl 6 rfl) ?_
        obtain ⟨q7, hq7, hf⟩ := bd_e hf
        refine k_iR (va_runV (C := RX3) (As := [.int x3, .int x3]) (rest := [.int x2]) ⟨hx, hb, hml, hown, hts⟩ (c_X3_likeAhead (l := l) (sz := H.size) (p0 := x3) (p1 := x3) hN h81 h82 hq7) (cwV 2 hts gX3_kindsIn_X3_likeAhead rfl rfl rfl (by decide +kernel) ⟨Nat.le_of_ble_eq_true rfl, Nat.le_of_ble_eq_true rfl⟩) (preV_of hK hP (by omega) h81 rfl) rfl rfl hl.1 rfl (lv_room (Nat.le_of_ble_eq_true rfl)) dX3_kindsIn_29 ⟨Nat.le_of_ble_eq_true rfl, Nat.le_of_ble_eq_true rfl⟩) hA hP hS (fun H locs hP hS hbz_q7 => ?_)
        obtain ⟨q8, htq8, hf⟩ := bd_e hf
        have jnq8 : ∀ (C : Nat → va_E) (H : Heap) (locs : List Loc) (ls : Array Slot), va_P D vwCl (wd N ad C) H → va_S (Aw N ad s.heap.size) s.heap H locs → (∀ i : Nat, i ≠ 82 → C i = C0 i) → C 5 = .inr (7, [.ref (ad 6), .ref (ad 7), .ref (ad 8), .ref (ad 9), .ref (ad 10), .ref (ad 11), .ref (ad 12), .ref (ad 13), .ref (ad 14), .ref (ad 15), .ref (ad 16), .ref (ad 17), .ref (ad 18), .int t_there, .int t_lift, .int t_none]) → C 6 = aI g 12 t_down → C 8 = aI g 12 t_pac → C 19 = .inr (9, [.ref (ad 5), .ref (ad 20), .int w_src]) → C 20 = aI g 12 w_over → C 81 = .inr (3, [.ref (ad 5), .ref (ad 19), .ref (ad 82), .ref (ad 83)]) → C 82 = aI g 12 q1.2 → lv_has ls 7 [(0, .ref (ad 81)), (1, .int p0), (2, .int p1), (3, .int p2), (4, .int q1.1), (5, .int x2), (6, .int x3)] → W p l e (headSpec wsX3_kindsIn rmX3_kindsIn).room s m args below meth c H locs 0 0 QQ (F0 m 40 ls [.int q8, .int x2]) := by
          intro C H locs ls hP hS hag h5 h6 h8 h19 h20 h81 h82 hl
          refine lv_iadd hx hb dX3_kindsIn_40 ?_
          obtain ⟨x9, ex9, hf⟩ := lt_e hf
          refine tp_i ex9 ?_
          refine lv_istore (lv' := [(5, .int x9), (0, .ref (ad 81)), (1, .int p0), (2, .int p1), (3, .int p2), (4, .int q1.1), (6, .int x3)]) hx hb dX3_kindsIn_41 hl (by decide) rfl (fun ls hl => ?_)
          obtain ⟨x10, ex10, hf⟩ := lt_e hf
          refine lv_iinc (v := x10) (lv' := [(6, .int x10), (5, .int x9), (0, .ref (ad 81)), (1, .int p0), (2, .int p1), (3, .int p2), (4, .int q1.1)]) hx hb dX3_kindsIn_43 hl (k := 6) rfl (by rw [ex10]; rfl) (by decide) rfl (fun ls hl => ?_)
          refine lv_goto (tgt := 15) hx hb dX3_kindsIn_46 (by decide) ?_
          exact ih x9 x10 C H locs ls hP hS hag h5 h6 h8 h19 h20 h81 h82 (lv_sub hl [2, 3, 4, 5, 6, 1, 0] rfl) hf
        clear hf
        have hf := htq8
        refine lv_if_ne (tgt := 39) hx hb dX3_kindsIn_32 (by decide) (fun c11 => ?_) (fun c11 => ?_)
        · have hf := ie_e c11 hf
          refine lv_iconst (v := 0) hx hb dX3_kindsIn_39 (by decide) ?_
          obtain rfl := Option.some.inj hf
          exact jnq8 C H locs ls hP hS hag h5 h6 h8 h19 h20 h81 h82 (lv_sub hl [0, 1, 2, 3, 4, 5, 6] rfl)
        · have hf := it_e c11 hf
          refine lv_iconst (v := 1) hx hb dX3_kindsIn_35 (by decide) ?_
          refine lv_goto (tgt := 40) hx hb dX3_kindsIn_36 (by decide) ?_
          obtain rfl := Option.some.inj hf
          exact jnq8 C H locs ls hP hS hag h5 h6 h8 h19 h20 h81 h82 (lv_sub hl [0, 1, 2, 3, 4, 5, 6] rfl)
  refine key15 _ (fun x4 x5 C H locs ls hP hS hag h5 h6 h8 h19 h20 h81 h82 hl hf => ?_) FU 0 0 C H locs ls hP hS hag h5 h6 h8 h19 h20 h81 h82 (lv_sub hl [3, 4, 5, 6, 2, 1, 0] rfl) hf
  refine lv_iload hx hb dX3_kindsIn_49 (lv_at hl 5 rfl) ?_
  obtain rfl := Option.some.inj hf
  rw [← hQ]
  exact e_iW hx hb hr rfl (tP_i _) hP hS ⟨hag, h82⟩ hlocks dX3_kindsIn_51

def LX3_largestIn_15 (q1 : Int32 × (Nat → Int32)) (ko : Int32 → Int32 → Option (Int32 × (Nat → Int32))) : Nat → Int32 → Int32 → Option (Int32 × (Nat → Int32))
  | 0, _, _ => none
  | n + 1, x2, x3 =>
    if q1.1 ≤ x3 then
      ko x2 x3
    else
      (f_X3_likeAhead x3 q1.1 q1.2).bind fun q7 =>
      lt ((if x2 < q7 then q7 else x2) : Int32) fun x8 =>
      lt (x3 + 1 : Int32) fun x9 =>
      LX3_largestIn_15 q1 ko n x8 x9
theorem LX3_largestIn_15_z (q1 : Int32 × (Nat → Int32)) (ko : Int32 → Int32 → Option (Int32 × (Nat → Int32))) (x2 : Int32) (x3 : Int32) : LX3_largestIn_15 q1 ko 0 x2 x3 = none := rfl
theorem LX3_largestIn_15_s (q1 : Int32 × (Nat → Int32)) (ko : Int32 → Int32 → Option (Int32 × (Nat → Int32))) (n : Nat) (x2 : Int32) (x3 : Int32) : LX3_largestIn_15 q1 ko (n + 1) x2 x3 =
    if q1.1 ≤ x3 then
      ko x2 x3
    else
      (f_X3_likeAhead x3 q1.1 q1.2).bind fun q7 =>
      lt ((if x2 < q7 then q7 else x2) : Int32) fun x8 =>
      lt (x3 + 1 : Int32) fun x9 =>
      LX3_largestIn_15 q1 ko n x8 x9 := rfl
def f_X3_largestIn (p0 : Int32) (p1 : Int32) (p2 : Int32) (t_down : Nat → Int32) (t_pac : Nat → Int32) (w_src : Int32) (w_over : Nat → Int32) (l_kinds : Nat → Int32) : Option (Int32 × (Nat → Int32)) :=
  (f_X3_answerAll p0 p1 p2 t_down t_pac w_src w_over l_kinds).bind fun q1 =>
  LX3_largestIn_15 q1 (fun x4 x5 =>
    some (x4, q1.2)) FU 0 0
abbrev rmX3_largestIn : Room := { frames := 3, cells := 0, slots := 0, locals := 78 }
set_option maxHeartbeats 4000000 in
set_option maxRecDepth 100000 in
theorem c_X3_largestIn {l : Launch} {D : va_G} {g : Nat → ClassId} {N : Nat} {ad : Nat → Nat} {C : Nat → va_E} {sz : Nat} {t_there : Int32} {t_lift : Int32} {t_none : Int32} {t_down : Nat → Int32} {t_pac : Nat → Int32} {w_src : Int32} {w_over : Nat → Int32} {l_kinds : Nat → Int32} {p0 : Int32} {p1 : Int32} {p2 : Int32} {rr : Int32 × (Nat → Int32)} (hN : 86 ≤ N) (hI : Inj N ad) (h5 : C 5 = .inr (7, [.ref (ad 6), .ref (ad 7), .ref (ad 8), .ref (ad 9), .ref (ad 10), .ref (ad 11), .ref (ad 12), .ref (ad 13), .ref (ad 14), .ref (ad 15), .ref (ad 16), .ref (ad 17), .ref (ad 18), .int t_there, .int t_lift, .int t_none])) (h6 : C 6 = aI g 12 t_down) (h8 : C 8 = aI g 12 t_pac) (h19 : C 19 = .inr (9, [.ref (ad 5), .ref (ad 20), .int w_src])) (h20 : C 20 = aI g 12 w_over) (h81 : C 81 = .inr (3, [.ref (ad 5), .ref (ad 19), .ref (ad 82), .ref (ad 83)])) (h82 : C 82 = aI g 12 l_kinds) (hf : f_X3_largestIn p0 p1 p2 t_down t_pac w_src w_over l_kinds = some rr) : Met l yX3_largestIn wsX3_largestIn rmX3_largestIn (PcW D g N ad C sz [.ref (ad 81), .int p0, .int p1, .int p2]) (QiW D N ad sz tP rr.1 (fun C' => (∀ i : Nat, i ≠ 82 → C' i = C i) ∧ (C' 82 = aI g 12 rr.2))) 0 0 (Aw N ad sz) := by
  refine Met.ofW (cc := cX3_largestIn) (maxL := 7) (ret := (some .int)) (by decide) rfl ?_
  intro p e s m args below meth c s₁ B hml hv
  obtain ⟨hav, hsz, hK, hP⟩ := hv
  subst hsz
  have hx := B.exec
  have hb := B.bytes
  have hr := B.returns
  have hts := atoms_spec (ws := wsX3_largestIn) B.pre
  have hown : s.vm.findClass RX3 = some m.cls := findClass_of_methodNamed B.named
  have hlocks := B.notSynchronized
  generalize hQ : MQ below (QiW D N ad s.heap.size tP rr.1 (fun C' => (∀ i : Nat, i ≠ 82 → C' i = C i) ∧ (C' 82 = aI g 12 rr.2))) args s 0 0 (Aw N ad s.heap.size) = QQ
  have hS : va_S (Aw N ad s.heap.size) s.heap s.heap [] := va_S.rf
  have hA : ∀ q, s.heap.size ≤ q → (Aw N ad s.heap.size) q := fun q h => Or.inr h
  have hAd : ∀ j : Nat, j < N → (Aw N ad s.heap.size) (ad j) := fun j h => Or.inl ⟨j, h, rfl⟩
  obtain ⟨C0, hC0⟩ : ∃ C0 : Nat → va_E, C0 = C := ⟨_, rfl⟩
  have hag : ∀ i : Nat, i ≠ 82 → C i = C0 i := fun i _ => by rw [hC0]
  rw [← hC0] at hQ
  have k0 := hts (.methodLink RX3 49 Lib.Math.max.name) (List.mem_of_getElem? (i := 1) rfl)
  have k1 := hts (.static Lib.Math.max.name) (List.mem_of_getElem? (i := 2) rfl)
  have k2 := hts (.initialized "java/lang/Math") (List.mem_of_getElem? (i := 3) rfl)
  have k3 := hts (.code Lib.Math.max.name Lib.Math.max.code 2 (some .int)) (List.mem_of_getElem? (i := 4) rfl)
  have hE := lg_entry_eq m [.ref (ad 81), .int p0, .int p1, .int p2] 7
  rw [← hav] at hE
  rw [hE]
  have hl := lv_entry [.ref (ad 81), .int p0, .int p1, .int p2] (n := 7) (Nat.le_of_ble_eq_true rfl)
  generalize (lg_sl [.ref (ad 81), .int p0, .int p1, .int p2] ++ List.replicate (7 - (lg_sl [.ref (ad 81), .int p0, .int p1, .int p2]).length) Slot.unset).toArray = ls at hl ⊢
  have hl : lv_has ls 7 [(0, .ref (ad 81)), (1, .int p0), (2, .int p1), (3, .int p2)] := hl
  clear hE
  unfold f_X3_largestIn at hf
  suffices hgo : ∀ (H : Heap) (locs : List Loc), va_P D vwCl (wd N ad C) H → va_S (Aw N ad s.heap.size) s.heap H locs → W p l e (headSpec wsX3_largestIn rmX3_largestIn).room s m args below meth c H locs 0 0 QQ (F0 m 0 ls []) from hgo s.heap [] hP hS
  clear hS hP
  intro H locs hP hS
  refine lv_aload_n hx hb dX3_largestIn_0 rfl (lv_at hl 0 rfl) ?_
  refine lv_iload_n hx hb dX3_largestIn_1 rfl (lv_at hl 1 rfl) ?_
  refine lv_iload_n hx hb dX3_largestIn_2 rfl (lv_at hl 2 rfl) ?_
  refine lv_iload_n hx hb dX3_largestIn_3 rfl (lv_at hl 3 rfl) ?_
  obtain ⟨q1, hq1, hf⟩ := bd_e hf
  refine k_iW (va_runV (C := RX3) (As := [.int p0, .int p1, .int p2]) (rest := []) ⟨hx, hb, hml, hown, hts⟩ (c_X3_answerAll (l := l) (sz := H.size) (p0 := p0) (p1 := p1) (p2 := p2) hN hI h5 h6 h8 h19 h20 h81 h82 hq1) (cwV 3 hts gX3_largestIn_X3_answerAll rfl rfl rfl (by decide +kernel) ⟨Nat.le_of_ble_eq_true rfl, Nat.le_of_ble_eq_true rfl⟩) (preV_of hK hP (by omega) h81 rfl) rfl rfl hl.1 rfl (lv_room (Nat.le_of_ble_eq_true rfl)) dX3_largestIn_4 ⟨Nat.le_of_ble_eq_true rfl, Nat.le_of_ble_eq_true rfl⟩) hA hAd hS (fun C H locs hP hS hpo hbz_q1 => ?_)
  obtain ⟨he, h82⟩ := hpo
  have hag : ∀ i : Nat, i ≠ 82 → C i = C0 i := fun i h => (he i (by omega)).trans (hag i h)
  have h5 := (he 5 (by decide)).trans h5
  have h6 := (he 6 (by decide)).trans h6
  have h8 := (he 8 (by decide)).trans h8
  have h19 := (he 19 (by decide)).trans h19
  have h20 := (he 20 (by decide)).trans h20
  have h81 := (he 81 (by decide)).trans h81
  refine lv_istore (lv' := [(4, .int q1.1), (0, .ref (ad 81)), (1, .int p0), (2, .int p1), (3, .int p2)]) hx hb dX3_largestIn_7 hl (by decide) rfl (fun ls hl => ?_)
  refine lv_iconst (v := 0) hx hb dX3_largestIn_9 (by decide) ?_
  refine lv_istore (lv' := [(5, .int 0), (4, .int q1.1), (0, .ref (ad 81)), (1, .int p0), (2, .int p1), (3, .int p2)]) hx hb dX3_largestIn_10 hl (by decide) rfl (fun ls hl => ?_)
  refine lv_iconst (v := 0) hx hb dX3_largestIn_12 (by decide) ?_
  refine lv_istore (lv' := [(6, .int 0), (5, .int 0), (4, .int q1.1), (0, .ref (ad 81)), (1, .int p0), (2, .int p1), (3, .int p2)]) hx hb dX3_largestIn_13 hl (by decide) rfl (fun ls hl => ?_)
  have key15 : ∀ (ko : Int32 → Int32 → Option (Int32 × (Nat → Int32))), (∀ (x4 : Int32) (x5 : Int32) (C : Nat → va_E) (H : Heap) (locs : List Loc) (ls : Array Slot), va_P D vwCl (wd N ad C) H → va_S (Aw N ad s.heap.size) s.heap H locs → (∀ i : Nat, i ≠ 82 → C i = C0 i) → C 5 = .inr (7, [.ref (ad 6), .ref (ad 7), .ref (ad 8), .ref (ad 9), .ref (ad 10), .ref (ad 11), .ref (ad 12), .ref (ad 13), .ref (ad 14), .ref (ad 15), .ref (ad 16), .ref (ad 17), .ref (ad 18), .int t_there, .int t_lift, .int t_none]) → C 6 = aI g 12 t_down → C 8 = aI g 12 t_pac → C 19 = .inr (9, [.ref (ad 5), .ref (ad 20), .int w_src]) → C 20 = aI g 12 w_over → C 81 = .inr (3, [.ref (ad 5), .ref (ad 19), .ref (ad 82), .ref (ad 83)]) → C 82 = aI g 12 q1.2 → lv_has ls 7 [(0, .ref (ad 81)), (1, .int p0), (2, .int p1), (3, .int p2), (4, .int q1.1), (5, .int x4), (6, .int x5)] → ko x4 x5 = some rr → W p l e (headSpec wsX3_largestIn rmX3_largestIn).room s m args below meth c H locs 0 0 QQ (F0 m 43 ls [])) → ∀ (n : Nat) (x2 : Int32) (x3 : Int32) (C : Nat → va_E) (H : Heap) (locs : List Loc) (ls : Array Slot), va_P D vwCl (wd N ad C) H → va_S (Aw N ad s.heap.size) s.heap H locs → (∀ i : Nat, i ≠ 82 → C i = C0 i) → C 5 = .inr (7, [.ref (ad 6), .ref (ad 7), .ref (ad 8), .ref (ad 9), .ref (ad 10), .ref (ad 11), .ref (ad 12), .ref (ad 13), .ref (ad 14), .ref (ad 15), .ref (ad 16), .ref (ad 17), .ref (ad 18), .int t_there, .int t_lift, .int t_none]) → C 6 = aI g 12 t_down → C 8 = aI g 12 t_pac → C 19 = .inr (9, [.ref (ad 5), .ref (ad 20), .int w_src]) → C 20 = aI g 12 w_over → C 81 = .inr (3, [.ref (ad 5), .ref (ad 19), .ref (ad 82), .ref (ad 83)]) → C 82 = aI g 12 q1.2 → lv_has ls 7 [(0, .ref (ad 81)), (1, .int p0), (2, .int p1), (3, .int p2), (4, .int q1.1), (5, .int x2), (6, .int x3)] → LX3_largestIn_15 q1 ko n x2 x3 = some rr → W p l e (headSpec wsX3_largestIn rmX3_largestIn).room s m args below meth c H locs 0 0 QQ (F0 m 15 ls []) := by
    intro ko hko n
    induction n with
    | zero =>
      intro x2 x3 C H locs ls hP hS hag h5 h6 h8 h19 h20 h81 h82 hl hf
      rw [LX3_largestIn_15_z] at hf
      cases hf
    | succ n ih =>
      intro x2 x3 C H locs ls hP hS hag h5 h6 h8 h19 h20 h81 h82 hl hf
      rw [LX3_largestIn_15_s] at hf
      refine lv_iload hx hb dX3_largestIn_15 (lv_at hl 6 rfl) ?_
      refine lv_iload hx hb dX3_largestIn_17 (lv_at hl 4 rfl) ?_
      refine lv_icmp_ge (tgt := 43) hx hb dX3_largestIn_19 (by decide) (fun c6 => ?_) (fun c6 => ?_)
      · have hf := it_e c6 hf
        exact hko x2 x3 C H locs ls hP hS hag h5 h6 h8 h19 h20 h81 h82 (lv_sub hl [0, 1, 2, 3, 4, 5, 6] rfl) hf
      · have hf := ie_e c6 hf
        refine lv_iload hx hb dX3_largestIn_22 (lv_at hl 5 rfl) ?_
        refine lv_aload_n hx hb dX3_largestIn_24 rfl (lv_at hl 0 rfl) ?_
        refine lv_iload hx hb dX3_largestIn_25 (lv_at hl 6 rfl) ?_
        refine lv_iload hx hb dX3_largestIn_27 (lv_at hl 4 rfl) ?_
        obtain ⟨q7, hq7, hf⟩ := bd_e hf
        refine k_iR (va_runV (C := RX3) (As := [.int x3, .int q1.1]) (rest := [.int x2]) ⟨hx, hb, hml, hown, hts⟩ (c_X3_likeAhead (l := l) (sz := H.size) (p0 := x3) (p1 := q1.1) hN h81 h82 hq7) (cwV 2 hts gX3_largestIn_X3_likeAhead rfl rfl rfl (by decide +kernel) ⟨Nat.le_of_ble_eq_true rfl, Nat.le_of_ble_eq_true rfl⟩) (preV_of hK hP (by omega) h81 rfl) rfl rfl hl.1 rfl (lv_room (Nat.le_of_ble_eq_true rfl)) dX3_largestIn_29 ⟨Nat.le_of_ble_eq_true rfl, Nat.le_of_ble_eq_true rfl⟩) hA hP hS (fun H locs hP hS hbz_q7 => ?_)
        refine va_mmax (own := RX3) hx hb (hml.trans hl.1.symm) hown k0 k1 k2 k3 (Nat.le_of_ble_eq_true rfl) (Nat.le_of_ble_eq_true rfl) (Nat.le_refl _) (Nat.le_refl _) dX3_largestIn_32 ?_
        obtain ⟨x8, ex8, hf⟩ := lt_e hf
        refine tp_i ex8 ?_
        refine lv_istore (lv' := [(5, .int x8), (0, .ref (ad 81)), (1, .int p0), (2, .int p1), (3, .int p2), (4, .int q1.1), (6, .int x3)]) hx hb dX3_largestIn_35 hl (by decide) rfl (fun ls hl => ?_)
        obtain ⟨x9, ex9, hf⟩ := lt_e hf
        refine lv_iinc (v := x9) (lv' := [(6, .int x9), (5, .int x8), (0, .ref (ad 81)), (1, .int p0), (2, .int p1), (3, .int p2), (4, .int q1.1)]) hx hb dX3_largestIn_37 hl (k := 6) rfl (by rw [ex9]; rfl) (by decide) rfl (fun ls hl => ?_)
        refine lv_goto (tgt := 15) hx hb dX3_largestIn_40 (by decide) ?_
        exact ih x8 x9 C H locs ls hP hS hag h5 h6 h8 h19 h20 h81 h82 (lv_sub hl [2, 3, 4, 5, 6, 1, 0] rfl) hf
  refine key15 _ (fun x4 x5 C H locs ls hP hS hag h5 h6 h8 h19 h20 h81 h82 hl hf => ?_) FU 0 0 C H locs ls hP hS hag h5 h6 h8 h19 h20 h81 h82 (lv_sub hl [3, 4, 5, 6, 2, 1, 0] rfl) hf
  refine lv_iload hx hb dX3_largestIn_43 (lv_at hl 5 rfl) ?_
  obtain rfl := Option.some.inj hf
  rw [← hQ]
  exact e_iW hx hb hr rfl (tP_i _) hP hS ⟨hag, h82⟩ hlocks dX3_largestIn_45

def LX3_nodesBelowOne_5 (p0 : Int32) (p1 : Int32) (w_over : Nat → Int32) (ko : Int32 → Int32 → Option (Int32)) : Nat → Int32 → Int32 → Option (Int32)
  | 0, _, _ => none
  | n + 1, x1, x2 =>
    if 12 ≤ x2 then
      ko x1 x2
    else
      ri w_over 12 (x2) fun x6 =>
      (f_X10_has x6 p0).bind fun q8 =>
      ri w_over 12 (x2) fun x9 =>
      (f_X10_has x9 p1).bind fun q11 =>
      (if q8 = q11 then
        some (0)
      else
        some ((1 <<< (x2 &&& 31))) : Option (Int32)).bind fun q12 =>
      lt ((x1 ||| q12) : Int32) fun x13 =>
      lt (x2 + 1 : Int32) fun x14 =>
      LX3_nodesBelowOne_5 p0 p1 w_over ko n x13 x14
theorem LX3_nodesBelowOne_5_z (p0 : Int32) (p1 : Int32) (w_over : Nat → Int32) (ko : Int32 → Int32 → Option (Int32)) (x1 : Int32) (x2 : Int32) : LX3_nodesBelowOne_5 p0 p1 w_over ko 0 x1 x2 = none := rfl
theorem LX3_nodesBelowOne_5_s (p0 : Int32) (p1 : Int32) (w_over : Nat → Int32) (ko : Int32 → Int32 → Option (Int32)) (n : Nat) (x1 : Int32) (x2 : Int32) : LX3_nodesBelowOne_5 p0 p1 w_over ko (n + 1) x1 x2 =
    if 12 ≤ x2 then
      ko x1 x2
    else
      ri w_over 12 (x2) fun x6 =>
      (f_X10_has x6 p0).bind fun q8 =>
      ri w_over 12 (x2) fun x9 =>
      (f_X10_has x9 p1).bind fun q11 =>
      (if q8 = q11 then
        some (0)
      else
        some ((1 <<< (x2 &&& 31))) : Option (Int32)).bind fun q12 =>
      lt ((x1 ||| q12) : Int32) fun x13 =>
      lt (x2 + 1 : Int32) fun x14 =>
      LX3_nodesBelowOne_5 p0 p1 w_over ko n x13 x14 := rfl
def f_X3_nodesBelowOne (p0 : Int32) (p1 : Int32) (w_over : Nat → Int32) : Option (Int32) :=
  LX3_nodesBelowOne_5 p0 p1 w_over (fun x3 x4 =>
    some (x3)) FU 0 0
abbrev rmX3_nodesBelowOne : Room := { frames := 1, cells := 0, slots := 0, locals := 21 }
set_option maxHeartbeats 4000000 in
set_option maxRecDepth 100000 in
theorem c_X3_nodesBelowOne {l : Launch} {D : va_G} {g : Nat → ClassId} {N : Nat} {ad : Nat → Nat} {C : Nat → va_E} {sz : Nat} {w_src : Int32} {w_over : Nat → Int32} {p0 : Int32} {p1 : Int32} {rr : Int32} (hN : 86 ≤ N) (h19 : C 19 = .inr (9, [.ref (ad 5), .ref (ad 20), .int w_src])) (h20 : C 20 = aI g 12 w_over) (h81 : C 81 = .inr (3, [.ref (ad 5), .ref (ad 19), .ref (ad 82), .ref (ad 83)])) (hf : f_X3_nodesBelowOne p0 p1 w_over = some rr) : Met l yX3_nodesBelowOne wsX3_nodesBelowOne rmX3_nodesBelowOne (PcW D g N ad C sz [.ref (ad 81), .int p0, .int p1]) (QiR sz tP rr) 0 0 (An sz) := by
  refine Met.ofW (cc := cX3_nodesBelowOne) (maxL := 5) (ret := (some .int)) (by decide) rfl ?_
  intro p e s m args below meth c s₁ B hml hv
  obtain ⟨hav, hsz, hK, hP⟩ := hv
  subst hsz
  have hx := B.exec
  have hb := B.bytes
  have hr := B.returns
  have hts := atoms_spec (ws := wsX3_nodesBelowOne) B.pre
  have hown : s.vm.findClass RX3 = some m.cls := findClass_of_methodNamed B.named
  have hlocks := B.notSynchronized
  generalize hQ : MQ below (QiR s.heap.size tP rr) args s 0 0 (An s.heap.size) = QQ
  have hS : va_S (An s.heap.size) s.heap s.heap [] := va_S.rf
  have hA : ∀ q, s.heap.size ≤ q → (An s.heap.size) q := fun q h => h
  have k0 := hts (.fieldLink RX3 22 "UpDrain$Lids" "ways" "LUpDrain$Ways;") (List.mem_of_getElem? (i := 1) rfl)
  have nX3 : ∀ w ∈ u_ws RX3 TX3 4, w ∈ wsX3_nodesBelowOne := fun _ h => List.mem_cons_of_mem _ (List.mem_append_left _ (List.mem_append_right _ h))
  have k2 := nf_48 (A := args) hK
  have nX9 : ∀ w ∈ u_ws RX9 TX9 3, w ∈ wsX3_nodesBelowOne := fun _ h => List.mem_cons_of_mem _ (List.mem_append_right _ h)
  have k4 := nm_9 hK
  have k5 := hts (.initialized RX10) (List.mem_of_getElem? (i := 3) rfl)
  have k6 := hts (.static yX10_has) (List.mem_of_getElem? (i := 2) rfl)
  have hE := lg_entry_eq m [.ref (ad 81), .int p0, .int p1] 5
  rw [← hav] at hE
  rw [hE]
  have hl := lv_entry [.ref (ad 81), .int p0, .int p1] (n := 5) (Nat.le_of_ble_eq_true rfl)
  generalize (lg_sl [.ref (ad 81), .int p0, .int p1] ++ List.replicate (5 - (lg_sl [.ref (ad 81), .int p0, .int p1]).length) Slot.unset).toArray = ls at hl ⊢
  have hl : lv_has ls 5 [(0, .ref (ad 81)), (1, .int p0), (2, .int p1)] := hl
  clear hE
  unfold f_X3_nodesBelowOne at hf
  suffices hgo : ∀ (H : Heap) (locs : List Loc), va_P D vwCl (wd N ad C) H → va_S (An s.heap.size) s.heap H locs → W p l e (headSpec wsX3_nodesBelowOne rmX3_nodesBelowOne).room s m args below meth c H locs 0 0 QQ (F0 m 0 ls []) from hgo s.heap [] hP hS
  clear hS hP
  intro H locs hP hS
  refine lv_iconst (v := 0) hx hb dX3_nodesBelowOne_0 (by decide) ?_
  refine lv_istore_n (lv' := [(3, .int 0), (0, .ref (ad 81)), (1, .int p0), (2, .int p1)]) hx hb dX3_nodesBelowOne_1 rfl hl (by decide) rfl (fun ls hl => ?_)
  refine lv_iconst (v := 0) hx hb dX3_nodesBelowOne_2 (by decide) ?_
  refine lv_istore (lv' := [(4, .int 0), (3, .int 0), (0, .ref (ad 81)), (1, .int p0), (2, .int p1)]) hx hb dX3_nodesBelowOne_3 hl (by decide) rfl (fun ls hl => ?_)
  have key5 : ∀ (ko : Int32 → Int32 → Option (Int32)), (∀ (x3 : Int32) (x4 : Int32) (C : Nat → va_E) (H : Heap) (locs : List Loc) (ls : Array Slot), va_P D vwCl (wd N ad C) H → va_S (An s.heap.size) s.heap H locs → C 19 = .inr (9, [.ref (ad 5), .ref (ad 20), .int w_src]) → C 20 = aI g 12 w_over → C 81 = .inr (3, [.ref (ad 5), .ref (ad 19), .ref (ad 82), .ref (ad 83)]) → lv_has ls 5 [(0, .ref (ad 81)), (1, .int p0), (2, .int p1), (3, .int x3), (4, .int x4)] → ko x3 x4 = some rr → W p l e (headSpec wsX3_nodesBelowOne rmX3_nodesBelowOne).room s m args below meth c H locs 0 0 QQ (F0 m 60 ls [])) → ∀ (n : Nat) (x1 : Int32) (x2 : Int32) (C : Nat → va_E) (H : Heap) (locs : List Loc) (ls : Array Slot), va_P D vwCl (wd N ad C) H → va_S (An s.heap.size) s.heap H locs → C 19 = .inr (9, [.ref (ad 5), .ref (ad 20), .int w_src]) → C 20 = aI g 12 w_over → C 81 = .inr (3, [.ref (ad 5), .ref (ad 19), .ref (ad 82), .ref (ad 83)]) → lv_has ls 5 [(0, .ref (ad 81)), (1, .int p0), (2, .int p1), (3, .int x1), (4, .int x2)] → LX3_nodesBelowOne_5 p0 p1 w_over ko n x1 x2 = some rr → W p l e (headSpec wsX3_nodesBelowOne rmX3_nodesBelowOne).room s m args below meth c H locs 0 0 QQ (F0 m 5 ls []) := by
    intro ko hko n
    induction n with
    | zero =>
      intro x1 x2 C H locs ls hP hS h19 h20 h81 hl hf
      rw [LX3_nodesBelowOne_5_z] at hf
      cases hf
    | succ n ih =>
      intro x1 x2 C H locs ls hP hS h19 h20 h81 hl hf
      rw [LX3_nodesBelowOne_5_s] at hf
      refine lv_iload hx hb dX3_nodesBelowOne_5 (lv_at hl 4 rfl) ?_
      refine lv_bipush (v := 12) hx hb dX3_nodesBelowOne_7 (by decide) ?_
      refine lv_icmp_ge (tgt := 60) hx hb dX3_nodesBelowOne_9 (by decide) (fun c5 => ?_) (fun c5 => ?_)
      · have hf := it_e c5 hf
        exact hko x1 x2 C H locs ls hP hS h19 h20 h81 (lv_sub hl [0, 1, 2, 3, 4] rfl) hf
      · have hf := ie_e c5 hf
        refine lv_iload_n hx hb dX3_nodesBelowOne_12 rfl (lv_at hl 3 rfl) ?_
        refine lv_aload_n hx hb dX3_nodesBelowOne_13 rfl (lv_at hl 0 rfl) ?_
        refine r_get (own := RX3) (T := TX3) (n := 4) (ci := 3) (v := .ref (ad 19)) hx hb hts nX3 hown hK hP (by omega) h81 rfl 1 (by decide) k0 rfl dX3_nodesBelowOne_14 ?_
        refine r_getN (own := RX3) (T := TX9) (n := 3) (ci := 9) (v := .ref (ad 20)) hx hb hts nX9 hown hK hP (by omega) h19 rfl 1 (by decide) k2 rfl dX3_nodesBelowOne_17 ?_
        refine lv_iload hx hb dX3_nodesBelowOne_20 (lv_at hl 4 rfl) ?_
        obtain ⟨i7, x6, ex6, hf⟩ := ri_e hf
        refine r_iald hx hb hK hP (by omega) h20 i7 dX3_nodesBelowOne_22 ex6 ?_
        refine lv_iload_n hx hb dX3_nodesBelowOne_23 rfl (lv_at hl 1 rfl) ?_
        obtain ⟨q8, hq8, hf⟩ := bd_e hf
        refine k_iR (va_runSN (As := [.int x6, .int p0]) (rest := [.int x1]) ⟨hx, hb, hml, hown, hts⟩ (c_X10_has (l := l) (sz := H.size) (p0 := x6) (p1 := p0) hq8) ⟨va_cnB 2 hts gX3_nodesBelowOne_X10_has_n35 rfl rfl rfl k4 k5 (by decide +kernel) ⟨Nat.le_of_ble_eq_true rfl, Nat.le_of_ble_eq_true rfl⟩, k6, trivial⟩ preS0 rfl rfl hl.1 rfl (lv_room (Nat.le_of_ble_eq_true rfl)) dX3_nodesBelowOne_24 ⟨Nat.le_of_ble_eq_true rfl, Nat.le_of_ble_eq_true rfl⟩) hA hP hS (fun H locs hP hS hbz_q8 => ?_)
        refine lv_aload_n hx hb dX3_nodesBelowOne_27 rfl (lv_at hl 0 rfl) ?_
        refine r_get (own := RX3) (T := TX3) (n := 4) (ci := 3) (v := .ref (ad 19)) hx hb hts nX3 hown hK hP (by omega) h81 rfl 1 (by decide) k0 rfl dX3_nodesBelowOne_28 ?_
        refine r_getN (own := RX3) (T := TX9) (n := 3) (ci := 9) (v := .ref (ad 20)) hx hb hts nX9 hown hK hP (by omega) h19 rfl 1 (by decide) k2 rfl dX3_nodesBelowOne_31 ?_
        refine lv_iload hx hb dX3_nodesBelowOne_34 (lv_at hl 4 rfl) ?_
        obtain ⟨i10, x9, ex9, hf⟩ := ri_e hf
        refine r_iald hx hb hK hP (by omega) h20 i10 dX3_nodesBelowOne_36 ex9 ?_
        refine lv_iload_n hx hb dX3_nodesBelowOne_37 rfl (lv_at hl 2 rfl) ?_
        obtain ⟨q11, hq11, hf⟩ := bd_e hf
        refine k_iR (va_runSN (As := [.int x9, .int p1]) (rest := [.int q8, .int x1]) ⟨hx, hb, hml, hown, hts⟩ (c_X10_has (l := l) (sz := H.size) (p0 := x9) (p1 := p1) hq11) ⟨va_cnB 2 hts gX3_nodesBelowOne_X10_has_n35 rfl rfl rfl k4 k5 (by decide +kernel) ⟨Nat.le_of_ble_eq_true rfl, Nat.le_of_ble_eq_true rfl⟩, k6, trivial⟩ preS0 rfl rfl hl.1 rfl (lv_room (Nat.le_of_ble_eq_true rfl)) dX3_nodesBelowOne_38 ⟨Nat.le_of_ble_eq_true rfl, Nat.le_of_ble_eq_true rfl⟩) hA hP hS (fun H locs hP hS hbz_q11 => ?_)
        obtain ⟨q12, htq12, hf⟩ := bd_e hf
        have jnq12 : ∀ (C : Nat → va_E) (H : Heap) (locs : List Loc) (ls : Array Slot), va_P D vwCl (wd N ad C) H → va_S (An s.heap.size) s.heap H locs → C 19 = .inr (9, [.ref (ad 5), .ref (ad 20), .int w_src]) → C 20 = aI g 12 w_over → C 81 = .inr (3, [.ref (ad 5), .ref (ad 19), .ref (ad 82), .ref (ad 83)]) → lv_has ls 5 [(0, .ref (ad 81)), (1, .int p0), (2, .int p1), (3, .int x1), (4, .int x2)] → W p l e (headSpec wsX3_nodesBelowOne rmX3_nodesBelowOne).room s m args below meth c H locs 0 0 QQ (F0 m 52 ls [.int q12, .int x1]) := by
          intro C H locs ls hP hS h19 h20 h81 hl
          refine lv_ior hx hb dX3_nodesBelowOne_52 ?_
          obtain ⟨x13, ex13, hf⟩ := lt_e hf
          refine tp_i ex13 ?_
          refine lv_istore_n (lv' := [(3, .int x13), (0, .ref (ad 81)), (1, .int p0), (2, .int p1), (4, .int x2)]) hx hb dX3_nodesBelowOne_53 rfl hl (by decide) rfl (fun ls hl => ?_)
          obtain ⟨x14, ex14, hf⟩ := lt_e hf
          refine lv_iinc (v := x14) (lv' := [(4, .int x14), (3, .int x13), (0, .ref (ad 81)), (1, .int p0), (2, .int p1)]) hx hb dX3_nodesBelowOne_54 hl (k := 4) rfl (by rw [ex14]; rfl) (by decide) rfl (fun ls hl => ?_)
          refine lv_goto (tgt := 5) hx hb dX3_nodesBelowOne_57 (by decide) ?_
          exact ih x13 x14 C H locs ls hP hS h19 h20 h81 (lv_sub hl [2, 3, 4, 1, 0] rfl) hf
        clear hf
        have hf := htq12
        refine lv_icmp_eq (tgt := 51) hx hb dX3_nodesBelowOne_41 (by decide) (fun c15 => ?_) (fun c15 => ?_)
        · have hf := it_e c15 hf
          refine lv_iconst (v := 0) hx hb dX3_nodesBelowOne_51 (by decide) ?_
          obtain rfl := Option.some.inj hf
          exact jnq12 C H locs ls hP hS h19 h20 h81 (lv_sub hl [0, 1, 2, 3, 4] rfl)
        · have hf := ie_e c15 hf
          refine lv_iconst (v := 1) hx hb dX3_nodesBelowOne_44 (by decide) ?_
          refine lv_iload hx hb dX3_nodesBelowOne_45 (lv_at hl 4 rfl) ?_
          refine lv_ishl hx hb dX3_nodesBelowOne_47 ?_
          refine lv_goto (tgt := 52) hx hb dX3_nodesBelowOne_48 (by decide) ?_
          obtain rfl := Option.some.inj hf
          exact jnq12 C H locs ls hP hS h19 h20 h81 (lv_sub hl [0, 1, 2, 3, 4] rfl)
  refine key5 _ (fun x3 x4 C H locs ls hP hS h19 h20 h81 hl hf => ?_) FU 0 0 C H locs ls hP hS h19 h20 h81 (lv_sub hl [2, 3, 4, 1, 0] rfl) hf
  refine lv_iload_n hx hb dX3_nodesBelowOne_60 rfl (lv_at hl 3 rfl) ?_
  obtain rfl := Option.some.inj hf
  rw [← hQ]
  exact e_iR hx hb hr rfl (tP_i _) hS hlocks dX3_nodesBelowOne_61

def LX3_pairsFartherThan_13 (p0 : Int32) (t_down : Nat → Int32) (t_pac : Nat → Int32) (w_src : Int32) (w_over : Nat → Int32) (x2 : Int32) (ko : Int32 → Int32 → (Nat → Int32) → Option (Int32 × (Nat → Int32))) : Nat → Int32 → Int32 → (Nat → Int32) → Option (Int32 × (Nat → Int32))
  | 0, _, _, _ => none
  | n + 1, x8, x9, f10 =>
    if x2 ≤ x9 then
      ko x8 x9 f10
    else
      (f_X10_has w_src x2).bind fun q15 =>
      (if q15 = 0 then
        some (x8, f10)
      else
        (f_X10_has w_src x9).bind fun q19 =>
        if q19 = 0 then
          some (x8, f10)
        else
          (f_X9_minutesBetween x2 x9 t_down t_pac).bind fun q21 =>
          if q21 ≤ p0 then
            some (x8, f10)
          else
            (f_X3_nodesBelowOne x2 x9 w_over).bind fun q23 =>
            wi f10 66 (x8) (q23) fun f24 =>
            lt (x8 + 1 : Int32) fun x26 =>
            some (x26, f24) : Option (Int32 × (Nat → Int32))).bind fun q16 =>
      lt (x9 + 1 : Int32) fun x17 =>
      LX3_pairsFartherThan_13 p0 t_down t_pac w_src w_over x2 ko n q16.1 x17 q16.2
theorem LX3_pairsFartherThan_13_z (p0 : Int32) (t_down : Nat → Int32) (t_pac : Nat → Int32) (w_src : Int32) (w_over : Nat → Int32) (x2 : Int32) (ko : Int32 → Int32 → (Nat → Int32) → Option (Int32 × (Nat → Int32))) (x8 : Int32) (x9 : Int32) (f10 : Nat → Int32) : LX3_pairsFartherThan_13 p0 t_down t_pac w_src w_over x2 ko 0 x8 x9 f10 = none := rfl
theorem LX3_pairsFartherThan_13_s (p0 : Int32) (t_down : Nat → Int32) (t_pac : Nat → Int32) (w_src : Int32) (w_over : Nat → Int32) (x2 : Int32) (ko : Int32 → Int32 → (Nat → Int32) → Option (Int32 × (Nat → Int32))) (n : Nat) (x8 : Int32) (x9 : Int32) (f10 : Nat → Int32) : LX3_pairsFartherThan_13 p0 t_down t_pac w_src w_over x2 ko (n + 1) x8 x9 f10 =
    if x2 ≤ x9 then
      ko x8 x9 f10
    else
      (f_X10_has w_src x2).bind fun q15 =>
      (if q15 = 0 then
        some (x8, f10)
      else
        (f_X10_has w_src x9).bind fun q19 =>
        if q19 = 0 then
          some (x8, f10)
        else
          (f_X9_minutesBetween x2 x9 t_down t_pac).bind fun q21 =>
          if q21 ≤ p0 then
            some (x8, f10)
          else
            (f_X3_nodesBelowOne x2 x9 w_over).bind fun q23 =>
            wi f10 66 (x8) (q23) fun f24 =>
            lt (x8 + 1 : Int32) fun x26 =>
            some (x26, f24) : Option (Int32 × (Nat → Int32))).bind fun q16 =>
      lt (x9 + 1 : Int32) fun x17 =>
      LX3_pairsFartherThan_13 p0 t_down t_pac w_src w_over x2 ko n q16.1 x17 q16.2 := rfl
def LX3_pairsFartherThan_4 (p0 : Int32) (t_down : Nat → Int32) (t_pac : Nat → Int32) (w_src : Int32) (w_over : Nat → Int32) (ko : Int32 → Int32 → (Nat → Int32) → Option (Int32 × (Nat → Int32))) : Nat → Int32 → Int32 → (Nat → Int32) → Option (Int32 × (Nat → Int32))
  | 0, _, _, _ => none
  | n + 1, x1, x2, f3 =>
    if 12 ≤ x2 then
      ko x1 x2 f3
    else
      LX3_pairsFartherThan_13 p0 t_down t_pac w_src w_over x2 (fun x11 x12 f13 =>
        lt (x2 + 1 : Int32) fun x27 =>
        LX3_pairsFartherThan_4 p0 t_down t_pac w_src w_over ko n x11 x27 f13) FU x1 0 f3
theorem LX3_pairsFartherThan_4_z (p0 : Int32) (t_down : Nat → Int32) (t_pac : Nat → Int32) (w_src : Int32) (w_over : Nat → Int32) (ko : Int32 → Int32 → (Nat → Int32) → Option (Int32 × (Nat → Int32))) (x1 : Int32) (x2 : Int32) (f3 : Nat → Int32) : LX3_pairsFartherThan_4 p0 t_down t_pac w_src w_over ko 0 x1 x2 f3 = none := rfl
theorem LX3_pairsFartherThan_4_s (p0 : Int32) (t_down : Nat → Int32) (t_pac : Nat → Int32) (w_src : Int32) (w_over : Nat → Int32) (ko : Int32 → Int32 → (Nat → Int32) → Option (Int32 × (Nat → Int32))) (n : Nat) (x1 : Int32) (x2 : Int32) (f3 : Nat → Int32) : LX3_pairsFartherThan_4 p0 t_down t_pac w_src w_over ko (n + 1) x1 x2 f3 =
    if 12 ≤ x2 then
      ko x1 x2 f3
    else
      LX3_pairsFartherThan_13 p0 t_down t_pac w_src w_over x2 (fun x11 x12 f13 =>
        lt (x2 + 1 : Int32) fun x27 =>
        LX3_pairsFartherThan_4 p0 t_down t_pac w_src w_over ko n x11 x27 f13) FU x1 0 f3 := rfl
def f_X3_pairsFartherThan (p0 : Int32) (t_down : Nat → Int32) (t_pac : Nat → Int32) (w_src : Int32) (w_over : Nat → Int32) (l_unl : Nat → Int32) : Option (Int32 × (Nat → Int32)) :=
  LX3_pairsFartherThan_4 p0 t_down t_pac w_src w_over (fun x4 x5 f6 =>
    some (x4, f6)) FU 0 0 l_unl
abbrev rmX3_pairsFartherThan : Room := { frames := 2, cells := 0, slots := 0, locals := 45 }
set_option maxHeartbeats 4000000 in
set_option maxRecDepth 100000 in
theorem c_X3_pairsFartherThan {l : Launch} {D : va_G} {g : Nat → ClassId} {N : Nat} {ad : Nat → Nat} {C : Nat → va_E} {sz : Nat} {t_there : Int32} {t_lift : Int32} {t_none : Int32} {t_down : Nat → Int32} {t_pac : Nat → Int32} {w_src : Int32} {w_over : Nat → Int32} {l_unl : Nat → Int32} {p0 : Int32} {rr : Int32 × (Nat → Int32)} (hN : 86 ≤ N) (hI : Inj N ad) (h5 : C 5 = .inr (7, [.ref (ad 6), .ref (ad 7), .ref (ad 8), .ref (ad 9), .ref (ad 10), .ref (ad 11), .ref (ad 12), .ref (ad 13), .ref (ad 14), .ref (ad 15), .ref (ad 16), .ref (ad 17), .ref (ad 18), .int t_there, .int t_lift, .int t_none])) (h6 : C 6 = aI g 12 t_down) (h8 : C 8 = aI g 12 t_pac) (h19 : C 19 = .inr (9, [.ref (ad 5), .ref (ad 20), .int w_src])) (h20 : C 20 = aI g 12 w_over) (h81 : C 81 = .inr (3, [.ref (ad 5), .ref (ad 19), .ref (ad 82), .ref (ad 83)])) (h83 : C 83 = aI g 66 l_unl) (hf : f_X3_pairsFartherThan p0 t_down t_pac w_src w_over l_unl = some rr) : Met l yX3_pairsFartherThan wsX3_pairsFartherThan rmX3_pairsFartherThan (PcW D g N ad C sz [.ref (ad 81), .int p0]) (QiW D N ad sz tP rr.1 (fun C' => (∀ i : Nat, i ≠ 83 → C' i = C i) ∧ (C' 83 = aI g 66 rr.2))) 0 0 (Aw N ad sz) := by
  refine Met.ofW (cc := cX3_pairsFartherThan) (maxL := 5) (ret := (some .int)) (by decide) rfl ?_
  intro p e s m args below meth c s₁ B hml hv
  obtain ⟨hav, hsz, hK, hP⟩ := hv
  subst hsz
  have hx := B.exec
  have hb := B.bytes
  have hr := B.returns
  have hts := atoms_spec (ws := wsX3_pairsFartherThan) B.pre
  have hown : s.vm.findClass RX3 = some m.cls := findClass_of_methodNamed B.named
  have hlocks := B.notSynchronized
  generalize hQ : MQ below (QiW D N ad s.heap.size tP rr.1 (fun C' => (∀ i : Nat, i ≠ 83 → C' i = C i) ∧ (C' 83 = aI g 66 rr.2))) args s 0 0 (Aw N ad s.heap.size) = QQ
  have hS : va_S (Aw N ad s.heap.size) s.heap s.heap [] := va_S.rf
  have hA : ∀ q, s.heap.size ≤ q → (Aw N ad s.heap.size) q := fun q h => Or.inr h
  have hAd : ∀ j : Nat, j < N → (Aw N ad s.heap.size) (ad j) := fun j h => Or.inl ⟨j, h, rfl⟩
  obtain ⟨C0, hC0⟩ : ∃ C0 : Nat → va_E, C0 = C := ⟨_, rfl⟩
  have hag : ∀ i : Nat, i ≠ 83 → C i = C0 i := fun i _ => by rw [hC0]
  rw [← hC0] at hQ
  have k0 := hts (.fieldLink RX3 22 "UpDrain$Lids" "ways" "LUpDrain$Ways;") (List.mem_of_getElem? (i := 1) rfl)
  have nX3 : ∀ w ∈ u_ws RX3 TX3 4, w ∈ wsX3_pairsFartherThan := fun _ h => List.mem_cons_of_mem _ (List.mem_append_left _ (List.mem_append_left _ (List.mem_append_right _ h)))
  have k2 := nf_54 (A := args) hK
  have nX9 : ∀ w ∈ u_ws RX9 TX9 3, w ∈ wsX3_pairsFartherThan := fun _ h => List.mem_cons_of_mem _ (List.mem_append_left _ (List.mem_append_right _ h))
  have k4 := nm_9 hK
  have k5 := hts (.initialized RX10) (List.mem_of_getElem? (i := 4) rfl)
  have k6 := hts (.static yX10_has) (List.mem_of_getElem? (i := 3) rfl)
  have k7 := hts (.fieldLink RX3 15 "UpDrain$Lids" "unlikeBy" "[I") (List.mem_of_getElem? (i := 2) rfl)
  have hE := lg_entry_eq m [.ref (ad 81), .int p0] 5
  rw [← hav] at hE
  rw [hE]
  have hl := lv_entry [.ref (ad 81), .int p0] (n := 5) (Nat.le_of_ble_eq_true rfl)
  generalize (lg_sl [.ref (ad 81), .int p0] ++ List.replicate (5 - (lg_sl [.ref (ad 81), .int p0]).length) Slot.unset).toArray = ls at hl ⊢
  have hl : lv_has ls 5 [(0, .ref (ad 81)), (1, .int p0)] := hl
  clear hE
  unfold f_X3_pairsFartherThan at hf
  suffices hgo : ∀ (H : Heap) (locs : List Loc), va_P D vwCl (wd N ad C) H → va_S (Aw N ad s.heap.size) s.heap H locs → W p l e (headSpec wsX3_pairsFartherThan rmX3_pairsFartherThan).room s m args below meth c H locs 0 0 QQ (F0 m 0 ls []) from hgo s.heap [] hP hS
  clear hS hP
  intro H locs hP hS
  refine lv_iconst (v := 0) hx hb dX3_pairsFartherThan_0 (by decide) ?_
  refine lv_istore_n (lv' := [(2, .int 0), (0, .ref (ad 81)), (1, .int p0)]) hx hb dX3_pairsFartherThan_1 rfl hl (by decide) rfl (fun ls hl => ?_)
  refine lv_iconst (v := 0) hx hb dX3_pairsFartherThan_2 (by decide) ?_
  refine lv_istore_n (lv' := [(3, .int 0), (2, .int 0), (0, .ref (ad 81)), (1, .int p0)]) hx hb dX3_pairsFartherThan_3 rfl hl (by decide) rfl (fun ls hl => ?_)
  have key4 : ∀ (ko : Int32 → Int32 → (Nat → Int32) → Option (Int32 × (Nat → Int32))), (∀ (x4 : Int32) (x5 : Int32) (f6 : Nat → Int32) (C : Nat → va_E) (H : Heap) (locs : List Loc) (ls : Array Slot), va_P D vwCl (wd N ad C) H → va_S (Aw N ad s.heap.size) s.heap H locs → (∀ i : Nat, i ≠ 83 → C i = C0 i) → C 5 = .inr (7, [.ref (ad 6), .ref (ad 7), .ref (ad 8), .ref (ad 9), .ref (ad 10), .ref (ad 11), .ref (ad 12), .ref (ad 13), .ref (ad 14), .ref (ad 15), .ref (ad 16), .ref (ad 17), .ref (ad 18), .int t_there, .int t_lift, .int t_none]) → C 6 = aI g 12 t_down → C 8 = aI g 12 t_pac → C 19 = .inr (9, [.ref (ad 5), .ref (ad 20), .int w_src]) → C 20 = aI g 12 w_over → C 81 = .inr (3, [.ref (ad 5), .ref (ad 19), .ref (ad 82), .ref (ad 83)]) → C 83 = aI g 66 f6 → lv_has ls 5 [(0, .ref (ad 81)), (1, .int p0), (2, .int x4), (3, .int x5)] → ko x4 x5 f6 = some rr → W p l e (headSpec wsX3_pairsFartherThan rmX3_pairsFartherThan).room s m args below meth c H locs 0 0 QQ (F0 m 90 ls [])) → ∀ (n : Nat) (x1 : Int32) (x2 : Int32) (f3 : Nat → Int32) (C : Nat → va_E) (H : Heap) (locs : List Loc) (ls : Array Slot), va_P D vwCl (wd N ad C) H → va_S (Aw N ad s.heap.size) s.heap H locs → (∀ i : Nat, i ≠ 83 → C i = C0 i) → C 5 = .inr (7, [.ref (ad 6), .ref (ad 7), .ref (ad 8), .ref (ad 9), .ref (ad 10), .ref (ad 11), .ref (ad 12), .ref (ad 13), .ref (ad 14), .ref (ad 15), .ref (ad 16), .ref (ad 17), .ref (ad 18), .int t_there, .int t_lift, .int t_none]) → C 6 = aI g 12 t_down → C 8 = aI g 12 t_pac → C 19 = .inr (9, [.ref (ad 5), .ref (ad 20), .int w_src]) → C 20 = aI g 12 w_over → C 81 = .inr (3, [.ref (ad 5), .ref (ad 19), .ref (ad 82), .ref (ad 83)]) → C 83 = aI g 66 f3 → lv_has ls 5 [(0, .ref (ad 81)), (1, .int p0), (2, .int x1), (3, .int x2)] → LX3_pairsFartherThan_4 p0 t_down t_pac w_src w_over ko n x1 x2 f3 = some rr → W p l e (headSpec wsX3_pairsFartherThan rmX3_pairsFartherThan).room s m args below meth c H locs 0 0 QQ (F0 m 4 ls []) := by
    intro ko hko n
    induction n with
    | zero =>
      intro x1 x2 f3 C H locs ls hP hS hag h5 h6 h8 h19 h20 h81 h83 hl hf
      rw [LX3_pairsFartherThan_4_z] at hf
      cases hf
    | succ n ih =>
      intro x1 x2 f3 C H locs ls hP hS hag h5 h6 h8 h19 h20 h81 h83 hl hf
      rw [LX3_pairsFartherThan_4_s] at hf
      refine lv_iload_n hx hb dX3_pairsFartherThan_4 rfl (lv_at hl 3 rfl) ?_
      refine lv_bipush (v := 12) hx hb dX3_pairsFartherThan_5 (by decide) ?_
      refine lv_icmp_ge (tgt := 90) hx hb dX3_pairsFartherThan_7 (by decide) (fun c7 => ?_) (fun c7 => ?_)
      · have hf := it_e c7 hf
        exact hko x1 x2 f3 C H locs ls hP hS hag h5 h6 h8 h19 h20 h81 h83 (lv_sub hl [0, 1, 2, 3] rfl) hf
      · have hf := ie_e c7 hf
        refine lv_iconst (v := 0) hx hb dX3_pairsFartherThan_10 (by decide) ?_
        refine lv_istore (lv' := [(4, .int 0), (0, .ref (ad 81)), (1, .int p0), (2, .int x1), (3, .int x2)]) hx hb dX3_pairsFartherThan_11 hl (by decide) rfl (fun ls hl => ?_)
        have key13 : ∀ (ko : Int32 → Int32 → (Nat → Int32) → Option (Int32 × (Nat → Int32))), (∀ (x11 : Int32) (x12 : Int32) (f13 : Nat → Int32) (C : Nat → va_E) (H : Heap) (locs : List Loc) (ls : Array Slot), va_P D vwCl (wd N ad C) H → va_S (Aw N ad s.heap.size) s.heap H locs → (∀ i : Nat, i ≠ 83 → C i = C0 i) → C 5 = .inr (7, [.ref (ad 6), .ref (ad 7), .ref (ad 8), .ref (ad 9), .ref (ad 10), .ref (ad 11), .ref (ad 12), .ref (ad 13), .ref (ad 14), .ref (ad 15), .ref (ad 16), .ref (ad 17), .ref (ad 18), .int t_there, .int t_lift, .int t_none]) → C 6 = aI g 12 t_down → C 8 = aI g 12 t_pac → C 19 = .inr (9, [.ref (ad 5), .ref (ad 20), .int w_src]) → C 20 = aI g 12 w_over → C 81 = .inr (3, [.ref (ad 5), .ref (ad 19), .ref (ad 82), .ref (ad 83)]) → C 83 = aI g 66 f13 → lv_has ls 5 [(0, .ref (ad 81)), (1, .int p0), (2, .int x11), (3, .int x2), (4, .int x12)] → ko x11 x12 f13 = some rr → W p l e (headSpec wsX3_pairsFartherThan rmX3_pairsFartherThan).room s m args below meth c H locs 0 0 QQ (F0 m 84 ls [])) → ∀ (n : Nat) (x8 : Int32) (x9 : Int32) (f10 : Nat → Int32) (C : Nat → va_E) (H : Heap) (locs : List Loc) (ls : Array Slot), va_P D vwCl (wd N ad C) H → va_S (Aw N ad s.heap.size) s.heap H locs → (∀ i : Nat, i ≠ 83 → C i = C0 i) → C 5 = .inr (7, [.ref (ad 6), .ref (ad 7), .ref (ad 8), .ref (ad 9), .ref (ad 10), .ref (ad 11), .ref (ad 12), .ref (ad 13), .ref (ad 14), .ref (ad 15), .ref (ad 16), .ref (ad 17), .ref (ad 18), .int t_there, .int t_lift, .int t_none]) → C 6 = aI g 12 t_down → C 8 = aI g 12 t_pac → C 19 = .inr (9, [.ref (ad 5), .ref (ad 20), .int w_src]) → C 20 = aI g 12 w_over → C 81 = .inr (3, [.ref (ad 5), .ref (ad 19), .ref (ad 82), .ref (ad 83)]) → C 83 = aI g 66 f10 → lv_has ls 5 [(0, .ref (ad 81)), (1, .int p0), (2, .int x8), (3, .int x2), (4, .int x9)] → LX3_pairsFartherThan_13 p0 t_down t_pac w_src w_over x2 ko n x8 x9 f10 = some rr → W p l e (headSpec wsX3_pairsFartherThan rmX3_pairsFartherThan).room s m args below meth c H locs 0 0 QQ (F0 m 13 ls []) := by
          intro ko hko n
          induction n with
          | zero =>
            intro x8 x9 f10 C H locs ls hP hS hag h5 h6 h8 h19 h20 h81 h83 hl hf
            rw [LX3_pairsFartherThan_13_z] at hf
            cases hf
          | succ n ih =>
            intro x8 x9 f10 C H locs ls hP hS hag h5 h6 h8 h19 h20 h81 h83 hl hf
            rw [LX3_pairsFartherThan_13_s] at hf
            refine lv_iload hx hb dX3_pairsFartherThan_13 (lv_at hl 4 rfl) ?_
            refine lv_iload_n hx hb dX3_pairsFartherThan_15 rfl (lv_at hl 3 rfl) ?_
            refine lv_icmp_ge (tgt := 84) hx hb dX3_pairsFartherThan_16 (by decide) (fun c14 => ?_) (fun c14 => ?_)
            · have hf := it_e c14 hf
              exact hko x8 x9 f10 C H locs ls hP hS hag h5 h6 h8 h19 h20 h81 h83 (lv_sub hl [0, 1, 2, 3, 4] rfl) hf
            · have hf := ie_e c14 hf
              refine lv_aload_n hx hb dX3_pairsFartherThan_19 rfl (lv_at hl 0 rfl) ?_
              refine r_get (own := RX3) (T := TX3) (n := 4) (ci := 3) (v := .ref (ad 19)) hx hb hts nX3 hown hK hP (by omega) h81 rfl 1 (by decide) k0 rfl dX3_pairsFartherThan_20 ?_
              refine r_getN (own := RX3) (T := TX9) (n := 3) (ci := 9) (v := .int w_src) hx hb hts nX9 hown hK hP (by omega) h19 rfl 2 (by decide) k2 rfl dX3_pairsFartherThan_23 ?_
              refine lv_iload_n hx hb dX3_pairsFartherThan_26 rfl (lv_at hl 3 rfl) ?_
              obtain ⟨q15, hq15, hf⟩ := bd_e hf
              refine k_iR (va_runSN (As := [.int w_src, .int x2]) (rest := []) ⟨hx, hb, hml, hown, hts⟩ (c_X10_has (l := l) (sz := H.size) (p0 := w_src) (p1 := x2) hq15) ⟨va_cnB 2 hts gX3_pairsFartherThan_X10_has_n35 rfl rfl rfl k4 k5 (by decide +kernel) ⟨Nat.le_of_ble_eq_true rfl, Nat.le_of_ble_eq_true rfl⟩, k6, trivial⟩ preS0 rfl rfl hl.1 rfl (lv_room (Nat.le_of_ble_eq_true rfl)) dX3_pairsFartherThan_27 ⟨Nat.le_of_ble_eq_true rfl, Nat.le_of_ble_eq_true rfl⟩) hA hP hS (fun H locs hP hS hbz_q15 => ?_)
              obtain ⟨q16, htq16, hf⟩ := bd_e hf
              have jnq16 : ∀ (C : Nat → va_E) (H : Heap) (locs : List Loc) (ls : Array Slot), va_P D vwCl (wd N ad C) H → va_S (Aw N ad s.heap.size) s.heap H locs → (∀ i : Nat, i ≠ 83 → C i = C0 i) → C 5 = .inr (7, [.ref (ad 6), .ref (ad 7), .ref (ad 8), .ref (ad 9), .ref (ad 10), .ref (ad 11), .ref (ad 12), .ref (ad 13), .ref (ad 14), .ref (ad 15), .ref (ad 16), .ref (ad 17), .ref (ad 18), .int t_there, .int t_lift, .int t_none]) → C 6 = aI g 12 t_down → C 8 = aI g 12 t_pac → C 19 = .inr (9, [.ref (ad 5), .ref (ad 20), .int w_src]) → C 20 = aI g 12 w_over → C 81 = .inr (3, [.ref (ad 5), .ref (ad 19), .ref (ad 82), .ref (ad 83)]) → C 83 = aI g 66 q16.2 → lv_has ls 5 [(0, .ref (ad 81)), (1, .int p0), (2, .int q16.1), (3, .int x2), (4, .int x9)] → W p l e (headSpec wsX3_pairsFartherThan rmX3_pairsFartherThan).room s m args below meth c H locs 0 0 QQ (F0 m 78 ls []) := by
                intro C H locs ls hP hS hag h5 h6 h8 h19 h20 h81 h83 hl
                obtain ⟨x17, ex17, hf⟩ := lt_e hf
                refine lv_iinc (v := x17) (lv' := [(4, .int x17), (0, .ref (ad 81)), (1, .int p0), (2, .int q16.1), (3, .int x2)]) hx hb dX3_pairsFartherThan_78 hl (k := 4) rfl (by rw [ex17]; rfl) (by decide) rfl (fun ls hl => ?_)
                refine lv_goto (tgt := 13) hx hb dX3_pairsFartherThan_81 (by decide) ?_
                exact ih q16.1 x17 q16.2 C H locs ls hP hS hag h5 h6 h8 h19 h20 h81 h83 (lv_sub hl [1, 2, 3, 4, 0] rfl) hf
              clear hf
              have hf := htq16
              refine lv_if_eq (tgt := 78) hx hb dX3_pairsFartherThan_30 (by decide) (fun c18 => ?_) (fun c18 => ?_)
              · have hf := it_e c18 hf
                obtain rfl := Option.some.inj hf
                exact jnq16 C H locs ls hP hS hag h5 h6 h8 h19 h20 h81 h83 (lv_sub hl [0, 1, 2, 3, 4] rfl)
              · have hf := ie_e c18 hf
                refine lv_aload_n hx hb dX3_pairsFartherThan_33 rfl (lv_at hl 0 rfl) ?_
                refine r_get (own := RX3) (T := TX3) (n := 4) (ci := 3) (v := .ref (ad 19)) hx hb hts nX3 hown hK hP (by omega) h81 rfl 1 (by decide) k0 rfl dX3_pairsFartherThan_34 ?_
                refine r_getN (own := RX3) (T := TX9) (n := 3) (ci := 9) (v := .int w_src) hx hb hts nX9 hown hK hP (by omega) h19 rfl 2 (by decide) k2 rfl dX3_pairsFartherThan_37 ?_
                refine lv_iload hx hb dX3_pairsFartherThan_40 (lv_at hl 4 rfl) ?_
                obtain ⟨q19, hq19, hf⟩ := bd_e hf
                refine k_iR (va_runSN (As := [.int w_src, .int x9]) (rest := []) ⟨hx, hb, hml, hown, hts⟩ (c_X10_has (l := l) (sz := H.size) (p0 := w_src) (p1 := x9) hq19) ⟨va_cnB 2 hts gX3_pairsFartherThan_X10_has_n35 rfl rfl rfl k4 k5 (by decide +kernel) ⟨Nat.le_of_ble_eq_true rfl, Nat.le_of_ble_eq_true rfl⟩, k6, trivial⟩ preS0 rfl rfl hl.1 rfl (lv_room (Nat.le_of_ble_eq_true rfl)) dX3_pairsFartherThan_42 ⟨Nat.le_of_ble_eq_true rfl, Nat.le_of_ble_eq_true rfl⟩) hA hP hS (fun H locs hP hS hbz_q19 => ?_)
                refine lv_if_eq (tgt := 78) hx hb dX3_pairsFartherThan_45 (by decide) (fun c20 => ?_) (fun c20 => ?_)
                · have hf := it_e c20 hf
                  obtain rfl := Option.some.inj hf
                  exact jnq16 C H locs ls hP hS hag h5 h6 h8 h19 h20 h81 h83 (lv_sub hl [0, 1, 2, 3, 4] rfl)
                · have hf := ie_e c20 hf
                  refine lv_aload_n hx hb dX3_pairsFartherThan_48 rfl (lv_at hl 0 rfl) ?_
                  refine r_get (own := RX3) (T := TX3) (n := 4) (ci := 3) (v := .ref (ad 19)) hx hb hts nX3 hown hK hP (by omega) h81 rfl 1 (by decide) k0 rfl dX3_pairsFartherThan_49 ?_
                  refine lv_iload_n hx hb dX3_pairsFartherThan_52 rfl (lv_at hl 3 rfl) ?_
                  refine lv_iload hx hb dX3_pairsFartherThan_53 (lv_at hl 4 rfl) ?_
                  obtain ⟨q21, hq21, hf⟩ := bd_e hf
                  refine k_iR (va_runV (C := RX9) (As := [.int x2, .int x9]) (rest := []) ⟨hx, hb, hml, hown, hts⟩ (c_X9_minutesBetween (l := l) (sz := H.size) (p0 := x2) (p1 := x9) hN h5 h6 h8 h19 hq21) (cwV 2 hts gX3_pairsFartherThan_X9_minutesBetween rfl rfl rfl (by decide +kernel) ⟨Nat.le_of_ble_eq_true rfl, Nat.le_of_ble_eq_true rfl⟩) (preV_of hK hP (by omega) h19 rfl) rfl rfl hl.1 rfl (lv_room (Nat.le_of_ble_eq_true rfl)) dX3_pairsFartherThan_55 ⟨Nat.le_of_ble_eq_true rfl, Nat.le_of_ble_eq_true rfl⟩) hA hP hS (fun H locs hP hS hbz_q21 => ?_)
                  refine lv_iload_n hx hb dX3_pairsFartherThan_58 rfl (lv_at hl 1 rfl) ?_
                  refine lv_icmp_le (tgt := 78) hx hb dX3_pairsFartherThan_59 (by decide) (fun c22 => ?_) (fun c22 => ?_)
                  · have hf := it_e c22 hf
                    obtain rfl := Option.some.inj hf
                    exact jnq16 C H locs ls hP hS hag h5 h6 h8 h19 h20 h81 h83 (lv_sub hl [0, 1, 2, 3, 4] rfl)
                  · have hf := ie_e c22 hf
                    refine lv_aload_n hx hb dX3_pairsFartherThan_62 rfl (lv_at hl 0 rfl) ?_
                    refine r_get (own := RX3) (T := TX3) (n := 4) (ci := 3) (v := .ref (ad 83)) hx hb hts nX3 hown hK hP (by omega) h81 rfl 3 (by decide) k7 rfl dX3_pairsFartherThan_63 ?_
                    refine lv_iload_n hx hb dX3_pairsFartherThan_66 rfl (lv_at hl 2 rfl) ?_
                    refine lv_aload_n hx hb dX3_pairsFartherThan_67 rfl (lv_at hl 0 rfl) ?_
                    refine lv_iload_n hx hb dX3_pairsFartherThan_68 rfl (lv_at hl 3 rfl) ?_
                    refine lv_iload hx hb dX3_pairsFartherThan_69 (lv_at hl 4 rfl) ?_
                    obtain ⟨q23, hq23, hf⟩ := bd_e hf
                    refine k_iR (va_runV (C := RX3) (As := [.int x2, .int x9]) (rest := [.int x8, .ref (ad 83)]) ⟨hx, hb, hml, hown, hts⟩ (c_X3_nodesBelowOne (l := l) (sz := H.size) (p0 := x2) (p1 := x9) hN h19 h20 h81 hq23) (cwV 2 hts gX3_pairsFartherThan_X3_nodesBelowOne rfl rfl rfl (by decide +kernel) ⟨Nat.le_of_ble_eq_true rfl, Nat.le_of_ble_eq_true rfl⟩) (preV_of hK hP (by omega) h81 rfl) rfl rfl hl.1 rfl (lv_room (Nat.le_of_ble_eq_true rfl)) dX3_pairsFartherThan_71 ⟨Nat.le_of_ble_eq_true rfl, Nat.le_of_ble_eq_true rfl⟩) hA hP hS (fun H locs hP hS hbz_q23 => ?_)
                    obtain ⟨i25, f24, ef24, hf⟩ := wi_e hf
                    refine r_iast hx hb hK hI hAd hP hS (by omega) h83 i25 dX3_pairsFartherThan_74 ef24 (fun C H locs hP hS he hn => ?_)
                    have hag : ∀ i : Nat, i ≠ 83 → C i = C0 i := fun i h => (he i (by omega)).trans (hag i h)
                    have h5 := (he 5 (by decide)).trans h5
                    have h6 := (he 6 (by decide)).trans h6
                    have h8 := (he 8 (by decide)).trans h8
                    have h19 := (he 19 (by decide)).trans h19
                    have h20 := (he 20 (by decide)).trans h20
                    have h81 := (he 81 (by decide)).trans h81
                    have h83 : C 83 = aI g 66 f24 := hn
                    obtain ⟨x26, ex26, hf⟩ := lt_e hf
                    refine lv_iinc (v := x26) (lv' := [(2, .int x26), (0, .ref (ad 81)), (1, .int p0), (3, .int x2), (4, .int x9)]) hx hb dX3_pairsFartherThan_75 hl (k := 2) rfl (by rw [ex26]; rfl) (by decide) rfl (fun ls hl => ?_)
                    obtain rfl := Option.some.inj hf
                    exact jnq16 C H locs ls hP hS hag h5 h6 h8 h19 h20 h81 h83 (lv_sub hl [1, 2, 0, 3, 4] rfl)
        refine key13 _ (fun x11 x12 f13 C H locs ls hP hS hag h5 h6 h8 h19 h20 h81 h83 hl hf => ?_) FU x1 0 f3 C H locs ls hP hS hag h5 h6 h8 h19 h20 h81 h83 (lv_sub hl [1, 2, 3, 4, 0] rfl) hf
        obtain ⟨x27, ex27, hf⟩ := lt_e hf
        refine lv_iinc (v := x27) (lv' := [(3, .int x27), (0, .ref (ad 81)), (1, .int p0), (2, .int x11), (4, .int x12)]) hx hb dX3_pairsFartherThan_84 hl (k := 3) rfl (by rw [ex27]; rfl) (by decide) rfl (fun ls hl => ?_)
        refine lv_goto (tgt := 4) hx hb dX3_pairsFartherThan_87 (by decide) ?_
        exact ih x11 x27 f13 C H locs ls hP hS hag h5 h6 h8 h19 h20 h81 h83 (lv_sub hl [1, 2, 3, 0] rfl) hf
  refine key4 _ (fun x4 x5 f6 C H locs ls hP hS hag h5 h6 h8 h19 h20 h81 h83 hl hf => ?_) FU 0 0 l_unl C H locs ls hP hS hag h5 h6 h8 h19 h20 h81 h83 (lv_sub hl [2, 3, 1, 0] rfl) hf
  refine lv_iload_n hx hb dX3_pairsFartherThan_90 rfl (lv_at hl 2 rfl) ?_
  obtain rfl := Option.some.inj hf
  rw [← hQ]
  exact e_iW hx hb hr rfl (tP_i _) hP hS ⟨hag, h83⟩ hlocks dX3_pairsFartherThan_91

def LX3_tellsApart_2 (p0 : Int32) (p1 : Int32) (l_unl : Nat → Int32) (ko : Int32 → Option (Int32)) : Nat → Int32 → Option (Int32)
  | 0, _ => none
  | n + 1, x1 =>
    if p1 ≤ x1 then
      ko x1
    else
      ri l_unl 66 (x1) fun x4 =>
      if (x4 &&& p0) = 0 then
        some (0)
      else
        lt (x1 + 1 : Int32) fun x7 =>
        LX3_tellsApart_2 p0 p1 l_unl ko n x7
theorem LX3_tellsApart_2_z (p0 : Int32) (p1 : Int32) (l_unl : Nat → Int32) (ko : Int32 → Option (Int32)) (x1 : Int32) : LX3_tellsApart_2 p0 p1 l_unl ko 0 x1 = none := rfl
theorem LX3_tellsApart_2_s (p0 : Int32) (p1 : Int32) (l_unl : Nat → Int32) (ko : Int32 → Option (Int32)) (n : Nat) (x1 : Int32) : LX3_tellsApart_2 p0 p1 l_unl ko (n + 1) x1 =
    if p1 ≤ x1 then
      ko x1
    else
      ri l_unl 66 (x1) fun x4 =>
      if (x4 &&& p0) = 0 then
        some (0)
      else
        lt (x1 + 1 : Int32) fun x7 =>
        LX3_tellsApart_2 p0 p1 l_unl ko n x7 := rfl
def f_X3_tellsApart (p0 : Int32) (p1 : Int32) (l_unl : Nat → Int32) : Option (Int32) :=
  LX3_tellsApart_2 p0 p1 l_unl (fun x2 =>
    some (1)) FU 0
abbrev rmX3_tellsApart : Room := { frames := 0, cells := 0, slots := 0, locals := 0 }
set_option maxHeartbeats 4000000 in
set_option maxRecDepth 100000 in
theorem c_X3_tellsApart {l : Launch} {D : va_G} {g : Nat → ClassId} {N : Nat} {ad : Nat → Nat} {C : Nat → va_E} {sz : Nat} {l_unl : Nat → Int32} {p0 : Int32} {p1 : Int32} {rr : Int32} (hN : 86 ≤ N) (h81 : C 81 = .inr (3, [.ref (ad 5), .ref (ad 19), .ref (ad 82), .ref (ad 83)])) (h83 : C 83 = aI g 66 l_unl) (hf : f_X3_tellsApart p0 p1 l_unl = some rr) : Met l yX3_tellsApart wsX3_tellsApart rmX3_tellsApart (PcW D g N ad C sz [.ref (ad 81), .int p0, .int p1]) (QiR sz bz rr) 0 0 (An sz) := by
  refine Met.ofW (cc := cX3_tellsApart) (maxL := 4) (ret := (some .boolean)) (by decide) rfl ?_
  intro p e s m args below meth c s₁ B hml hv
  obtain ⟨hav, hsz, hK, hP⟩ := hv
  subst hsz
  have hx := B.exec
  have hb := B.bytes
  have hr := B.returns
  have hts := atoms_spec (ws := wsX3_tellsApart) B.pre
  have hown : s.vm.findClass RX3 = some m.cls := findClass_of_methodNamed B.named
  have hlocks := B.notSynchronized
  generalize hQ : MQ below (QiR s.heap.size bz rr) args s 0 0 (An s.heap.size) = QQ
  have hS : va_S (An s.heap.size) s.heap s.heap [] := va_S.rf
  have hA : ∀ q, s.heap.size ≤ q → (An s.heap.size) q := fun q h => h
  have k0 := hts (.fieldLink RX3 15 "UpDrain$Lids" "unlikeBy" "[I") (List.mem_of_getElem? (i := 1) rfl)
  have nX3 : ∀ w ∈ u_ws RX3 TX3 4, w ∈ wsX3_tellsApart := fun _ h => List.mem_cons_of_mem _ (List.mem_append_right _ h)
  have hE := lg_entry_eq m [.ref (ad 81), .int p0, .int p1] 4
  rw [← hav] at hE
  rw [hE]
  have hl := lv_entry [.ref (ad 81), .int p0, .int p1] (n := 4) (Nat.le_of_ble_eq_true rfl)
  generalize (lg_sl [.ref (ad 81), .int p0, .int p1] ++ List.replicate (4 - (lg_sl [.ref (ad 81), .int p0, .int p1]).length) Slot.unset).toArray = ls at hl ⊢
  have hl : lv_has ls 4 [(0, .ref (ad 81)), (1, .int p0), (2, .int p1)] := hl
  clear hE
  unfold f_X3_tellsApart at hf
  suffices hgo : ∀ (H : Heap) (locs : List Loc), va_P D vwCl (wd N ad C) H → va_S (An s.heap.size) s.heap H locs → W p l e (headSpec wsX3_tellsApart rmX3_tellsApart).room s m args below meth c H locs 0 0 QQ (F0 m 0 ls []) from hgo s.heap [] hP hS
  clear hS hP
  intro H locs hP hS
  refine lv_iconst (v := 0) hx hb dX3_tellsApart_0 (by decide) ?_
  refine lv_istore_n (lv' := [(3, .int 0), (0, .ref (ad 81)), (1, .int p0), (2, .int p1)]) hx hb dX3_tellsApart_1 rfl hl (by decide) rfl (fun ls hl => ?_)
  have key2 : ∀ (ko : Int32 → Option (Int32)), (∀ (x2 : Int32) (C : Nat → va_E) (H : Heap) (locs : List Loc) (ls : Array Slot), va_P D vwCl (wd N ad C) H → va_S (An s.heap.size) s.heap H locs → C 81 = .inr (3, [.ref (ad 5), .ref (ad 19), .ref (ad 82), .ref (ad 83)]) → C 83 = aI g 66 l_unl → lv_has ls 4 [(0, .ref (ad 81)), (1, .int p0), (2, .int p1), (3, .int x2)] → ko x2 = some rr → W p l e (headSpec wsX3_tellsApart rmX3_tellsApart).room s m args below meth c H locs 0 0 QQ (F0 m 26 ls [])) → ∀ (n : Nat) (x1 : Int32) (C : Nat → va_E) (H : Heap) (locs : List Loc) (ls : Array Slot), va_P D vwCl (wd N ad C) H → va_S (An s.heap.size) s.heap H locs → C 81 = .inr (3, [.ref (ad 5), .ref (ad 19), .ref (ad 82), .ref (ad 83)]) → C 83 = aI g 66 l_unl → lv_has ls 4 [(0, .ref (ad 81)), (1, .int p0), (2, .int p1), (3, .int x1)] → LX3_tellsApart_2 p0 p1 l_unl ko n x1 = some rr → W p l e (headSpec wsX3_tellsApart rmX3_tellsApart).room s m args below meth c H locs 0 0 QQ (F0 m 2 ls []) := by
    intro ko hko n
    induction n with
    | zero =>
      intro x1 C H locs ls hP hS h81 h83 hl hf
      rw [LX3_tellsApart_2_z] at hf
      cases hf
    | succ n ih =>
      intro x1 C H locs ls hP hS h81 h83 hl hf
      rw [LX3_tellsApart_2_s] at hf
      refine lv_iload_n hx hb dX3_tellsApart_2 rfl (lv_at hl 3 rfl) ?_
      refine lv_iload_n hx hb dX3_tellsApart_3 rfl (lv_at hl 2 rfl) ?_
      refine lv_icmp_ge (tgt := 26) hx hb dX3_tellsApart_4 (by decide) (fun c3 => ?_) (fun c3 => ?_)
      · have hf := it_e c3 hf
        exact hko x1 C H locs ls hP hS h81 h83 (lv_sub hl [0, 1, 2, 3] rfl) hf
      · have hf := ie_e c3 hf
        refine lv_aload_n hx hb dX3_tellsApart_7 rfl (lv_at hl 0 rfl) ?_
        refine r_get (own := RX3) (T := TX3) (n := 4) (ci := 3) (v := .ref (ad 83)) hx hb hts nX3 hown hK hP (by omega) h81 rfl 3 (by decide) k0 rfl dX3_tellsApart_8 ?_
        refine lv_iload_n hx hb dX3_tellsApart_11 rfl (lv_at hl 3 rfl) ?_
        obtain ⟨i5, x4, ex4, hf⟩ := ri_e hf
        refine r_iald hx hb hK hP (by omega) h83 i5 dX3_tellsApart_12 ex4 ?_
        refine lv_iload_n hx hb dX3_tellsApart_13 rfl (lv_at hl 1 rfl) ?_
        refine lv_iand hx hb dX3_tellsApart_14 ?_
        refine lv_if_ne (tgt := 20) hx hb dX3_tellsApart_15 (by decide) (fun c6 => ?_) (fun c6 => ?_)
        · have hf := ie_e c6 hf
          obtain ⟨x7, ex7, hf⟩ := lt_e hf
          refine lv_iinc (v := x7) (lv' := [(3, .int x7), (0, .ref (ad 81)), (1, .int p0), (2, .int p1)]) hx hb dX3_tellsApart_20 hl (k := 3) rfl (by rw [ex7]; rfl) (by decide) rfl (fun ls hl => ?_)
          refine lv_goto (tgt := 2) hx hb dX3_tellsApart_23 (by decide) ?_
          exact ih x7 C H locs ls hP hS h81 h83 (lv_sub hl [1, 2, 3, 0] rfl) hf
        · have hf := it_e c6 hf
          refine lv_iconst (v := 0) hx hb dX3_tellsApart_18 (by decide) ?_
          obtain rfl := Option.some.inj hf
          rw [← hQ]
          exact e_zR hx hb hr rfl bz0 hS hlocks dX3_tellsApart_19
  refine key2 _ (fun x2 C H locs ls hP hS h81 h83 hl hf => ?_) FU 0 C H locs ls hP hS h81 h83 (lv_sub hl [1, 2, 3, 0] rfl) hf
  refine lv_iconst (v := 1) hx hb dX3_tellsApart_26 (by decide) ?_
  obtain rfl := Option.some.inj hf
  rw [← hQ]
  exact e_zR hx hb hr rfl bz1 hS hlocks dX3_tellsApart_27

def LX3_fewestToHang_23 (t_there : Int32) (q1 : Int32 × (Nat → Int32)) (ko : Int32 → Int32 → Int32 → Option (Int32 × (Nat → Int32))) : Nat → Int32 → Int32 → Int32 → Option (Int32 × (Nat → Int32))
  | 0, _, _, _ => none
  | n + 1, x3, x4, x5 =>
    if t_there ≤ x5 then
      ko x3 x4 x5
    else
      (if (x5 &&& (t_there ^^^ (-1))) = 0 then
        some (1)
      else
        some (0) : Option (Int32)).bind fun q10 =>
      (if q10 = 0 then
        some (x3, x4)
      else
        (f_J6_bitCount_0f7a4 x5).bind fun q14 =>
        if x4 ≤ q14 then
          some (x3, x4)
        else
          (f_X3_tellsApart x5 q1.1 q1.2).bind fun q16 =>
          if q16 = 0 then
            some (x3, x4)
          else
            (f_J6_bitCount_0f7a4 x5).bind fun q18 =>
            some (x5, q18) : Option (Int32 × Int32)).bind fun q11 =>
      lt (x5 + 1 : Int32) fun x12 =>
      LX3_fewestToHang_23 t_there q1 ko n q11.1 q11.2 x12
theorem LX3_fewestToHang_23_z (t_there : Int32) (q1 : Int32 × (Nat → Int32)) (ko : Int32 → Int32 → Int32 → Option (Int32 × (Nat → Int32))) (x3 : Int32) (x4 : Int32) (x5 : Int32) : LX3_fewestToHang_23 t_there q1 ko 0 x3 x4 x5 = none := rfl
theorem LX3_fewestToHang_23_s (t_there : Int32) (q1 : Int32 × (Nat → Int32)) (ko : Int32 → Int32 → Int32 → Option (Int32 × (Nat → Int32))) (n : Nat) (x3 : Int32) (x4 : Int32) (x5 : Int32) : LX3_fewestToHang_23 t_there q1 ko (n + 1) x3 x4 x5 =
    if t_there ≤ x5 then
      ko x3 x4 x5
    else
      (if (x5 &&& (t_there ^^^ (-1))) = 0 then
        some (1)
      else
        some (0) : Option (Int32)).bind fun q10 =>
      (if q10 = 0 then
        some (x3, x4)
      else
        (f_J6_bitCount_0f7a4 x5).bind fun q14 =>
        if x4 ≤ q14 then
          some (x3, x4)
        else
          (f_X3_tellsApart x5 q1.1 q1.2).bind fun q16 =>
          if q16 = 0 then
            some (x3, x4)
          else
            (f_J6_bitCount_0f7a4 x5).bind fun q18 =>
            some (x5, q18) : Option (Int32 × Int32)).bind fun q11 =>
      lt (x5 + 1 : Int32) fun x12 =>
      LX3_fewestToHang_23 t_there q1 ko n q11.1 q11.2 x12 := rfl
def f_X3_fewestToHang (p0 : Int32) (t_down : Nat → Int32) (t_pac : Nat → Int32) (t_there : Int32) (w_src : Int32) (w_over : Nat → Int32) (l_unl : Nat → Int32) : Option (Int32 × (Nat → Int32)) :=
  (f_X3_pairsFartherThan p0 t_down t_pac w_src w_over l_unl).bind fun q1 =>
  (f_J6_bitCount_0f7a4 t_there).bind fun q2 =>
  LX3_fewestToHang_23 t_there q1 (fun x6 x7 x8 =>
    some (x6, q1.2)) FU t_there q2 0
abbrev rmX3_fewestToHang : Room := { frames := 3, cells := 0, slots := 0, locals := 69 }
set_option maxHeartbeats 4000000 in
set_option maxRecDepth 100000 in
theorem c_X3_fewestToHang {l : Launch} {D : va_G} {g : Nat → ClassId} {N : Nat} {ad : Nat → Nat} {C : Nat → va_E} {sz : Nat} {t_there : Int32} {t_lift : Int32} {t_none : Int32} {t_down : Nat → Int32} {t_pac : Nat → Int32} {w_src : Int32} {w_over : Nat → Int32} {l_unl : Nat → Int32} {p0 : Int32} {rr : Int32 × (Nat → Int32)} (hN : 86 ≤ N) (hI : Inj N ad) (h5 : C 5 = .inr (7, [.ref (ad 6), .ref (ad 7), .ref (ad 8), .ref (ad 9), .ref (ad 10), .ref (ad 11), .ref (ad 12), .ref (ad 13), .ref (ad 14), .ref (ad 15), .ref (ad 16), .ref (ad 17), .ref (ad 18), .int t_there, .int t_lift, .int t_none])) (h6 : C 6 = aI g 12 t_down) (h8 : C 8 = aI g 12 t_pac) (h19 : C 19 = .inr (9, [.ref (ad 5), .ref (ad 20), .int w_src])) (h20 : C 20 = aI g 12 w_over) (h81 : C 81 = .inr (3, [.ref (ad 5), .ref (ad 19), .ref (ad 82), .ref (ad 83)])) (h83 : C 83 = aI g 66 l_unl) (hf : f_X3_fewestToHang p0 t_down t_pac t_there w_src w_over l_unl = some rr) : Met l yX3_fewestToHang wsX3_fewestToHang rmX3_fewestToHang (PcW D g N ad C sz [.ref (ad 81), .int p0]) (QiW D N ad sz tP rr.1 (fun C' => (∀ i : Nat, i ≠ 83 → C' i = C i) ∧ (C' 83 = aI g 66 rr.2))) 0 0 (Aw N ad sz) := by
  refine Met.ofW (cc := cX3_fewestToHang) (maxL := 7) (ret := (some .int)) (by decide) rfl ?_
  intro p e s m args below meth c s₁ B hml hv
  obtain ⟨hav, hsz, hK, hP⟩ := hv
  subst hsz
  have hx := B.exec
  have hb := B.bytes
  have hr := B.returns
  have hts := atoms_spec (ws := wsX3_fewestToHang) B.pre
  have hown : s.vm.findClass RX3 = some m.cls := findClass_of_methodNamed B.named
  have hlocks := B.notSynchronized
  generalize hQ : MQ below (QiW D N ad s.heap.size tP rr.1 (fun C' => (∀ i : Nat, i ≠ 83 → C' i = C i) ∧ (C' 83 = aI g 66 rr.2))) args s 0 0 (Aw N ad s.heap.size) = QQ
  have hS : va_S (Aw N ad s.heap.size) s.heap s.heap [] := va_S.rf
  have hA : ∀ q, s.heap.size ≤ q → (Aw N ad s.heap.size) q := fun q h => Or.inr h
  have hAd : ∀ j : Nat, j < N → (Aw N ad s.heap.size) (ad j) := fun j h => Or.inl ⟨j, h, rfl⟩
  obtain ⟨C0, hC0⟩ : ∃ C0 : Nat → va_E, C0 = C := ⟨_, rfl⟩
  have hag : ∀ i : Nat, i ≠ 83 → C i = C0 i := fun i _ => by rw [hC0]
  rw [← hC0] at hQ
  have k0 := hts (.fieldLink RX3 18 "UpDrain$Lids" "plan" "LUpDrain$Town;") (List.mem_of_getElem? (i := 1) rfl)
  have nX3 : ∀ w ∈ u_ws RX3 TX3 4, w ∈ wsX3_fewestToHang := fun _ h => List.mem_cons_of_mem _ (List.mem_append_left _ (List.mem_append_left _ (List.mem_append_right _ h)))
  have k2 := nf_38 (A := args) hK
  have nX7 : ∀ w ∈ u_ws RX7 TX7 16, w ∈ wsX3_fewestToHang := fun _ h => List.mem_cons_of_mem _ (List.mem_append_left _ (List.mem_append_right _ h))
  have hE := lg_entry_eq m [.ref (ad 81), .int p0] 7
  rw [← hav] at hE
  rw [hE]
  have hl := lv_entry [.ref (ad 81), .int p0] (n := 7) (Nat.le_of_ble_eq_true rfl)
  generalize (lg_sl [.ref (ad 81), .int p0] ++ List.replicate (7 - (lg_sl [.ref (ad 81), .int p0]).length) Slot.unset).toArray = ls at hl ⊢
  have hl : lv_has ls 7 [(0, .ref (ad 81)), (1, .int p0)] := hl
  clear hE
  unfold f_X3_fewestToHang at hf
  suffices hgo : ∀ (H : Heap) (locs : List Loc), va_P D vwCl (wd N ad C) H → va_S (Aw N ad s.heap.size) s.heap H locs → W p l e (headSpec wsX3_fewestToHang rmX3_fewestToHang).room s m args below meth c H locs 0 0 QQ (F0 m 0 ls []) from hgo s.heap [] hP hS
  clear hS hP
  intro H locs hP hS
  refine lv_aload_n hx hb dX3_fewestToHang_0 rfl (lv_at hl 0 rfl) ?_
  refine lv_iload_n hx hb dX3_fewestToHang_1 rfl (lv_at hl 1 rfl) ?_
  obtain ⟨q1, hq1, hf⟩ := bd_e hf
  refine k_iW (va_runV (C := RX3) (As := [.int p0]) (rest := []) ⟨hx, hb, hml, hown, hts⟩ (c_X3_pairsFartherThan (l := l) (sz := H.size) (p0 := p0) hN hI h5 h6 h8 h19 h20 h81 h83 hq1) (cwV 1 hts gX3_fewestToHang_X3_pairsFartherThan rfl rfl rfl (by decide +kernel) ⟨Nat.le_of_ble_eq_true rfl, Nat.le_of_ble_eq_true rfl⟩) (preV_of hK hP (by omega) h81 rfl) rfl rfl hl.1 rfl (lv_room (Nat.le_of_ble_eq_true rfl)) dX3_fewestToHang_2 ⟨Nat.le_of_ble_eq_true rfl, Nat.le_of_ble_eq_true rfl⟩) hA hAd hS (fun C H locs hP hS hpo hbz_q1 => ?_)
  obtain ⟨he, h83⟩ := hpo
  have hag : ∀ i : Nat, i ≠ 83 → C i = C0 i := fun i h => (he i (by omega)).trans (hag i h)
  have h5 := (he 5 (by decide)).trans h5
  have h6 := (he 6 (by decide)).trans h6
  have h8 := (he 8 (by decide)).trans h8
  have h19 := (he 19 (by decide)).trans h19
  have h20 := (he 20 (by decide)).trans h20
  have h81 := (he 81 (by decide)).trans h81
  refine lv_istore_n (lv' := [(2, .int q1.1), (0, .ref (ad 81)), (1, .int p0)]) hx hb dX3_fewestToHang_5 rfl hl (by decide) rfl (fun ls hl => ?_)
  refine lv_aload_n hx hb dX3_fewestToHang_6 rfl (lv_at hl 1 rfl) ?_
  refine r_get (own := RX3) (T := TX3) (n := 4) (ci := 3) (v := .ref (ad 5)) hx hb hts nX3 hown hK hP (by omega) h81 rfl 0 (by decide) k0 rfl dX3_fewestToHang_7 ?_
  refine r_getN (own := RX3) (T := TX7) (n := 16) (ci := 7) (v := .int t_there) hx hb hts nX7 hown hK hP (by omega) h5 rfl 13 (by decide) k2 rfl dX3_fewestToHang_10 ?_
  refine lv_istore_n (lv' := [(3, .int t_there), (2, .int q1.1), (0, .ref (ad 81)), (1, .int p0)]) hx hb dX3_fewestToHang_13 rfl hl (by decide) rfl (fun ls hl => ?_)
  refine lv_iload_n hx hb dX3_fewestToHang_14 rfl (lv_at hl 0 rfl) ?_
  obtain ⟨q2, hq2, hf⟩ := bd_e hf
  refine k_iR (va_runS (As := [.int t_there]) (rest := []) ⟨hx, hb, hml, hown, hts⟩ (c_J6_bitCount_0f7a4 (l := l) (sz := H.size) (p0 := t_there) hq2) (va_cwS 1 hts gX3_fewestToHang_J6_bitCount_0f7a4 rfl rfl rfl (by decide +kernel) ⟨Nat.le_of_ble_eq_true rfl, Nat.le_of_ble_eq_true rfl⟩) preS0 rfl rfl hl.1 rfl (lv_room (Nat.le_of_ble_eq_true rfl)) dX3_fewestToHang_15 ⟨Nat.le_of_ble_eq_true rfl, Nat.le_of_ble_eq_true rfl⟩) hA hP hS (fun H locs hP hS hbz_q2 => ?_)
  refine lv_istore (lv' := [(4, .int q2), (3, .int t_there), (2, .int q1.1), (0, .ref (ad 81)), (1, .int p0)]) hx hb dX3_fewestToHang_18 hl (by decide) rfl (fun ls hl => ?_)
  refine lv_iconst (v := 0) hx hb dX3_fewestToHang_20 (by decide) ?_
  refine lv_istore (lv' := [(5, .int 0), (4, .int q2), (3, .int t_there), (2, .int q1.1), (0, .ref (ad 81)), (1, .int p0)]) hx hb dX3_fewestToHang_21 hl (by decide) rfl (fun ls hl => ?_)
  have key23 : ∀ (ko : Int32 → Int32 → Int32 → Option (Int32 × (Nat → Int32))), (∀ (x6 : Int32) (x7 : Int32) (x8 : Int32) (C : Nat → va_E) (H : Heap) (locs : List Loc) (ls : Array Slot), va_P D vwCl (wd N ad C) H → va_S (Aw N ad s.heap.size) s.heap H locs → (∀ i : Nat, i ≠ 83 → C i = C0 i) → C 5 = .inr (7, [.ref (ad 6), .ref (ad 7), .ref (ad 8), .ref (ad 9), .ref (ad 10), .ref (ad 11), .ref (ad 12), .ref (ad 13), .ref (ad 14), .ref (ad 15), .ref (ad 16), .ref (ad 17), .ref (ad 18), .int t_there, .int t_lift, .int t_none]) → C 6 = aI g 12 t_down → C 8 = aI g 12 t_pac → C 19 = .inr (9, [.ref (ad 5), .ref (ad 20), .int w_src]) → C 20 = aI g 12 w_over → C 81 = .inr (3, [.ref (ad 5), .ref (ad 19), .ref (ad 82), .ref (ad 83)]) → C 83 = aI g 66 q1.2 → lv_has ls 7 [(0, .ref (ad 81)), (1, .int p0), (2, .int q1.1), (3, .int x6), (4, .int x7), (5, .int x8)] → ko x6 x7 x8 = some rr → W p l e (headSpec wsX3_fewestToHang rmX3_fewestToHang).room s m args below meth c H locs 0 0 QQ (F0 m 98 ls [])) → ∀ (n : Nat) (x3 : Int32) (x4 : Int32) (x5 : Int32) (C : Nat → va_E) (H : Heap) (locs : List Loc) (ls : Array Slot), va_P D vwCl (wd N ad C) H → va_S (Aw N ad s.heap.size) s.heap H locs → (∀ i : Nat, i ≠ 83 → C i = C0 i) → C 5 = .inr (7, [.ref (ad 6), .ref (ad 7), .ref (ad 8), .ref (ad 9), .ref (ad 10), .ref (ad 11), .ref (ad 12), .ref (ad 13), .ref (ad 14), .ref (ad 15), .ref (ad 16), .ref (ad 17), .ref (ad 18), .int t_there, .int t_lift, .int t_none]) → C 6 = aI g 12 t_down → C 8 = aI g 12 t_pac → C 19 = .inr (9, [.ref (ad 5), .ref (ad 20), .int w_src]) → C 20 = aI g 12 w_over → C 81 = .inr (3, [.ref (ad 5), .ref (ad 19), .ref (ad 82), .ref (ad 83)]) → C 83 = aI g 66 q1.2 → lv_has ls 7 [(0, .ref (ad 81)), (1, .int p0), (2, .int q1.1), (3, .int x3), (4, .int x4), (5, .int x5)] → LX3_fewestToHang_23 t_there q1 ko n x3 x4 x5 = some rr → W p l e (headSpec wsX3_fewestToHang rmX3_fewestToHang).room s m args below meth c H locs 0 0 QQ (F0 m 23 ls []) := by
    intro ko hko n
    induction n with
    | zero =>
      intro x3 x4 x5 C H locs ls hP hS hag h5 h6 h8 h19 h20 h81 h83 hl hf
      rw [LX3_fewestToHang_23_z] at hf
      cases hf
    | succ n ih =>
      intro x3 x4 x5 C H locs ls hP hS hag h5 h6 h8 h19 h20 h81 h83 hl hf
      rw [LX3_fewestToHang_23_s] at hf
      refine lv_iload hx hb dX3_fewestToHang_23 (lv_at hl 5 rfl) ?_
      refine lv_aload_n hx hb dX3_fewestToHang_25 rfl (lv_at hl 0 rfl) ?_
      refine r_get (own := RX3) (T := TX3) (n := 4) (ci := 3) (v := .ref (ad 5)) hx hb hts nX3 hown hK hP (by omega) h81 rfl 0 (by decide) k0 rfl dX3_fewestToHang_26 ?_
      refine r_getN (own := RX3) (T := TX7) (n := 16) (ci := 7) (v := .int t_there) hx hb hts nX7 hown hK hP (by omega) h5 rfl 13 (by decide) k2 rfl dX3_fewestToHang_29 ?_
      refine lv_icmp_ge (tgt := 98) hx hb dX3_fewestToHang_32 (by decide) (fun c9 => ?_) (fun c9 => ?_)
      · have hf := it_e c9 hf
        exact hko x3 x4 x5 C H locs ls hP hS hag h5 h6 h8 h19 h20 h81 h83 (lv_sub hl [0, 1, 2, 3, 4, 5] rfl) hf
      · have hf := ie_e c9 hf
        refine lv_iload hx hb dX3_fewestToHang_35 (lv_at hl 5 rfl) ?_
        refine lv_aload_n hx hb dX3_fewestToHang_37 rfl (lv_at hl 0 rfl) ?_
        refine r_get (own := RX3) (T := TX3) (n := 4) (ci := 3) (v := .ref (ad 5)) hx hb hts nX3 hown hK hP (by omega) h81 rfl 0 (by decide) k0 rfl dX3_fewestToHang_38 ?_
        refine r_getN (own := RX3) (T := TX7) (n := 16) (ci := 7) (v := .int t_there) hx hb hts nX7 hown hK hP (by omega) h5 rfl 13 (by decide) k2 rfl dX3_fewestToHang_41 ?_
        refine lv_iconst (v := (-1)) hx hb dX3_fewestToHang_44 (by decide) ?_
        refine lv_ixor hx hb dX3_fewestToHang_45 ?_
        refine lv_iand hx hb dX3_fewestToHang_46 ?_
        obtain ⟨q10, htq10, hf⟩ := bd_e hf
        have jnq10 : ∀ (C : Nat → va_E) (H : Heap) (locs : List Loc) (ls : Array Slot), va_P D vwCl (wd N ad C) H → va_S (Aw N ad s.heap.size) s.heap H locs → (∀ i : Nat, i ≠ 83 → C i = C0 i) → C 5 = .inr (7, [.ref (ad 6), .ref (ad 7), .ref (ad 8), .ref (ad 9), .ref (ad 10), .ref (ad 11), .ref (ad 12), .ref (ad 13), .ref (ad 14), .ref (ad 15), .ref (ad 16), .ref (ad 17), .ref (ad 18), .int t_there, .int t_lift, .int t_none]) → C 6 = aI g 12 t_down → C 8 = aI g 12 t_pac → C 19 = .inr (9, [.ref (ad 5), .ref (ad 20), .int w_src]) → C 20 = aI g 12 w_over → C 81 = .inr (3, [.ref (ad 5), .ref (ad 19), .ref (ad 82), .ref (ad 83)]) → C 83 = aI g 66 q1.2 → lv_has ls 7 [(0, .ref (ad 81)), (1, .int p0), (2, .int q1.1), (3, .int x3), (4, .int x4), (5, .int x5)] → W p l e (headSpec wsX3_fewestToHang rmX3_fewestToHang).room s m args below meth c H locs 0 0 QQ (F0 m 55 ls [.int q10]) := by
          intro C H locs ls hP hS hag h5 h6 h8 h19 h20 h81 h83 hl
          refine lv_istore (lv' := [(6, .int q10), (0, .ref (ad 81)), (1, .int p0), (2, .int q1.1), (3, .int x3), (4, .int x4), (5, .int x5)]) hx hb dX3_fewestToHang_55 hl (by decide) rfl (fun ls hl => ?_)
          refine lv_iload hx hb dX3_fewestToHang_57 (lv_at hl 0 rfl) ?_
          obtain ⟨q11, htq11, hf⟩ := bd_e hf
          have jnq11 : ∀ (C : Nat → va_E) (H : Heap) (locs : List Loc) (ls : Array Slot), va_P D vwCl (wd N ad C) H → va_S (Aw N ad s.heap.size) s.heap H locs → (∀ i : Nat, i ≠ 83 → C i = C0 i) → C 5 = .inr (7, [.ref (ad 6), .ref (ad 7), .ref (ad 8), .ref (ad 9), .ref (ad 10), .ref (ad 11), .ref (ad 12), .ref (ad 13), .ref (ad 14), .ref (ad 15), .ref (ad 16), .ref (ad 17), .ref (ad 18), .int t_there, .int t_lift, .int t_none]) → C 6 = aI g 12 t_down → C 8 = aI g 12 t_pac → C 19 = .inr (9, [.ref (ad 5), .ref (ad 20), .int w_src]) → C 20 = aI g 12 w_over → C 81 = .inr (3, [.ref (ad 5), .ref (ad 19), .ref (ad 82), .ref (ad 83)]) → C 83 = aI g 66 q1.2 → lv_has ls 7 [(0, .ref (ad 81)), (1, .int p0), (2, .int q1.1), (3, .int q11.1), (4, .int q11.2), (5, .int x5), (6, .int q10)] → W p l e (headSpec wsX3_fewestToHang rmX3_fewestToHang).room s m args below meth c H locs 0 0 QQ (F0 m 92 ls []) := by
            intro C H locs ls hP hS hag h5 h6 h8 h19 h20 h81 h83 hl
            obtain ⟨x12, ex12, hf⟩ := lt_e hf
            refine lv_iinc (v := x12) (lv' := [(5, .int x12), (0, .ref (ad 81)), (1, .int p0), (2, .int q1.1), (3, .int q11.1), (4, .int q11.2), (6, .int q10)]) hx hb dX3_fewestToHang_92 hl (k := 5) rfl (by rw [ex12]; rfl) (by decide) rfl (fun ls hl => ?_)
            refine lv_goto (tgt := 23) hx hb dX3_fewestToHang_95 (by decide) ?_
            exact ih q11.1 q11.2 x12 C H locs ls hP hS hag h5 h6 h8 h19 h20 h81 h83 (lv_sub hl [1, 2, 3, 4, 5, 0] rfl) hf
          clear hf
          have hf := htq11
          refine lv_if_eq (tgt := 92) hx hb dX3_fewestToHang_59 (by decide) (fun c13 => ?_) (fun c13 => ?_)
          · have hf := it_e c13 hf
            obtain rfl := Option.some.inj hf
            exact jnq11 C H locs ls hP hS hag h5 h6 h8 h19 h20 h81 h83 (lv_sub hl [1, 2, 3, 4, 5, 6, 0] rfl)
          · have hf := ie_e c13 hf
            refine lv_iload hx hb dX3_fewestToHang_62 (lv_at hl 6 rfl) ?_
            obtain ⟨q14, hq14, hf⟩ := bd_e hf
            refine k_iR (va_runS (As := [.int x5]) (rest := []) ⟨hx, hb, hml, hown, hts⟩ (c_J6_bitCount_0f7a4 (l := l) (sz := H.size) (p0 := x5) hq14) (va_cwS 1 hts gX3_fewestToHang_J6_bitCount_0f7a4 rfl rfl rfl (by decide +kernel) ⟨Nat.le_of_ble_eq_true rfl, Nat.le_of_ble_eq_true rfl⟩) preS0 rfl rfl hl.1 rfl (lv_room (Nat.le_of_ble_eq_true rfl)) dX3_fewestToHang_64 ⟨Nat.le_of_ble_eq_true rfl, Nat.le_of_ble_eq_true rfl⟩) hA hP hS (fun H locs hP hS hbz_q14 => ?_)
            refine lv_iload hx hb dX3_fewestToHang_67 (lv_at hl 5 rfl) ?_
            refine lv_icmp_ge (tgt := 92) hx hb dX3_fewestToHang_69 (by decide) (fun c15 => ?_) (fun c15 => ?_)
            · have hf := it_e c15 hf
              obtain rfl := Option.some.inj hf
              exact jnq11 C H locs ls hP hS hag h5 h6 h8 h19 h20 h81 h83 (lv_sub hl [1, 2, 3, 4, 5, 6, 0] rfl)
            · have hf := ie_e c15 hf
              refine lv_aload_n hx hb dX3_fewestToHang_72 rfl (lv_at hl 1 rfl) ?_
              refine lv_iload hx hb dX3_fewestToHang_73 (lv_at hl 6 rfl) ?_
              refine lv_iload_n hx hb dX3_fewestToHang_75 rfl (lv_at hl 3 rfl) ?_
              obtain ⟨q16, hq16, hf⟩ := bd_e hf
              refine k_iR (va_runV (C := RX3) (As := [.int x5, .int q1.1]) (rest := []) ⟨hx, hb, hml, hown, hts⟩ (c_X3_tellsApart (l := l) (sz := H.size) (p0 := x5) (p1 := q1.1) hN h81 h83 hq16) (cwV 2 hts gX3_fewestToHang_X3_tellsApart rfl rfl rfl (by decide +kernel) ⟨Nat.le_of_ble_eq_true rfl, Nat.le_of_ble_eq_true rfl⟩) (preV_of hK hP (by omega) h81 rfl) rfl rfl hl.1 rfl (lv_room (Nat.le_of_ble_eq_true rfl)) dX3_fewestToHang_76 ⟨Nat.le_of_ble_eq_true rfl, Nat.le_of_ble_eq_true rfl⟩) hA hP hS (fun H locs hP hS hbz_q16 => ?_)
              refine lv_if_eq (tgt := 92) hx hb dX3_fewestToHang_79 (by decide) (fun c17 => ?_) (fun c17 => ?_)
              · have hf := it_e c17 hf
                obtain rfl := Option.some.inj hf
                exact jnq11 C H locs ls hP hS hag h5 h6 h8 h19 h20 h81 h83 (lv_sub hl [1, 2, 3, 4, 5, 6, 0] rfl)
              · have hf := ie_e c17 hf
                refine lv_iload hx hb dX3_fewestToHang_82 (lv_at hl 6 rfl) ?_
                refine lv_istore_n (lv' := [(3, .int x5), (6, .int q10), (0, .ref (ad 81)), (1, .int p0), (2, .int q1.1), (4, .int x4), (5, .int x5)]) hx hb dX3_fewestToHang_84 rfl hl (by decide) rfl (fun ls hl => ?_)
                refine lv_iload hx hb dX3_fewestToHang_85 (lv_at hl 6 rfl) ?_
                obtain ⟨q18, hq18, hf⟩ := bd_e hf
                refine k_iR (va_runS (As := [.int x5]) (rest := []) ⟨hx, hb, hml, hown, hts⟩ (c_J6_bitCount_0f7a4 (l := l) (sz := H.size) (p0 := x5) hq18) (va_cwS 1 hts gX3_fewestToHang_J6_bitCount_0f7a4 rfl rfl rfl (by decide +kernel) ⟨Nat.le_of_ble_eq_true rfl, Nat.le_of_ble_eq_true rfl⟩) preS0 rfl rfl hl.1 rfl (lv_room (Nat.le_of_ble_eq_true rfl)) dX3_fewestToHang_87 ⟨Nat.le_of_ble_eq_true rfl, Nat.le_of_ble_eq_true rfl⟩) hA hP hS (fun H locs hP hS hbz_q18 => ?_)
                refine lv_istore (lv' := [(4, .int q18), (3, .int x5), (6, .int q10), (0, .ref (ad 81)), (1, .int p0), (2, .int q1.1), (5, .int x5)]) hx hb dX3_fewestToHang_90 hl (by decide) rfl (fun ls hl => ?_)
                obtain rfl := Option.some.inj hf
                exact jnq11 C H locs ls hP hS hag h5 h6 h8 h19 h20 h81 h83 (lv_sub hl [3, 4, 5, 1, 0, 6, 2] rfl)
        clear hf
        have hf := htq10
        refine lv_if_ne (tgt := 54) hx hb dX3_fewestToHang_47 (by decide) (fun c19 => ?_) (fun c19 => ?_)
        · have hf := ie_e c19 hf
          refine lv_iconst (v := 0) hx hb dX3_fewestToHang_54 (by decide) ?_
          obtain rfl := Option.some.inj hf
          exact jnq10 C H locs ls hP hS hag h5 h6 h8 h19 h20 h81 h83 (lv_sub hl [0, 1, 2, 3, 4, 5] rfl)
        · have hf := it_e c19 hf
          refine lv_iconst (v := 1) hx hb dX3_fewestToHang_50 (by decide) ?_
          refine lv_goto (tgt := 55) hx hb dX3_fewestToHang_51 (by decide) ?_
          obtain rfl := Option.some.inj hf
          exact jnq10 C H locs ls hP hS hag h5 h6 h8 h19 h20 h81 h83 (lv_sub hl [0, 1, 2, 3, 4, 5] rfl)
  refine key23 _ (fun x6 x7 x8 C H locs ls hP hS hag h5 h6 h8 h19 h20 h81 h83 hl hf => ?_) FU t_there q2 0 C H locs ls hP hS hag h5 h6 h8 h19 h20 h81 h83 (lv_sub hl [4, 5, 3, 2, 1, 0] rfl) hf
  refine lv_iload_n hx hb dX3_fewestToHang_98 rfl (lv_at hl 3 rfl) ?_
  obtain rfl := Option.some.inj hf
  rw [← hQ]
  exact e_iW hx hb hr rfl (tP_i _) hP hS ⟨hag, h83⟩ hlocks dX3_fewestToHang_99

def f_X0_draw (d_seed : Int32) : Option (Int32 × Int32) :=
  lt ((((d_seed * 25173) + 13849) &&& 65535) : Int32) fun x1 =>
  nz (64) <|
  some ((x1 / 64), x1)
abbrev rmX0_draw : Room := { frames := 0, cells := 0, slots := 0, locals := 0 }
set_option maxHeartbeats 4000000 in
set_option maxRecDepth 100000 in
theorem c_X0_draw {l : Launch} {D : va_G} {g : Nat → ClassId} {N : Nat} {ad : Nat → Nat} {C : Nat → va_E} {sz : Nat} {d_seed : Int32} {d_min : Int32} {d_gue : Int32} {d_src : Int32} {d_lif : Int32}  {rr : Int32 × Int32} (hN : 86 ≤ N) (hI : Inj N ad) (h84 : C 84 = .inr (0, [.ref (ad 5), .ref (ad 19), .ref (ad 77), .int d_seed, .int d_min, .int d_gue, .int d_src, .int d_lif])) (hf : f_X0_draw d_seed = some rr) : Met l yX0_draw wsX0_draw rmX0_draw (PcW D g N ad C sz [.ref (ad 84)]) (QiW D N ad sz tP rr.1 (fun C' => (∀ i : Nat, i ≠ 84 → C' i = C i) ∧ (C' 84 = .inr (0, [.ref (ad 5), .ref (ad 19), .ref (ad 77), .int rr.2, .int d_min, .int d_gue, .int d_src, .int d_lif])))) 0 0 (Aw N ad sz) := by
  refine Met.ofW (cc := cX0_draw) (maxL := 1) (ret := (some .int)) (by decide) rfl ?_
  intro p e s m args below meth c s₁ B hml hv
  obtain ⟨hav, hsz, hK, hP⟩ := hv
  subst hsz
  have hx := B.exec
  have hb := B.bytes
  have hr := B.returns
  have hts := atoms_spec (ws := wsX0_draw) B.pre
  have hown : s.vm.findClass RX0 = some m.cls := findClass_of_methodNamed B.named
  have hlocks := B.notSynchronized
  generalize hQ : MQ below (QiW D N ad s.heap.size tP rr.1 (fun C' => (∀ i : Nat, i ≠ 84 → C' i = C i) ∧ (C' 84 = .inr (0, [.ref (ad 5), .ref (ad 19), .ref (ad 77), .int rr.2, .int d_min, .int d_gue, .int d_src, .int d_lif])))) args s 0 0 (Aw N ad s.heap.size) = QQ
  have hS : va_S (Aw N ad s.heap.size) s.heap s.heap [] := va_S.rf
  have hA : ∀ q, s.heap.size ≤ q → (Aw N ad s.heap.size) q := fun q h => Or.inr h
  have hAd : ∀ j : Nat, j < N → (Aw N ad s.heap.size) (ad j) := fun j h => Or.inl ⟨j, h, rfl⟩
  obtain ⟨C0, hC0⟩ : ∃ C0 : Nat → va_E, C0 = C := ⟨_, rfl⟩
  have hag : ∀ i : Nat, i ≠ 84 → C i = C0 i := fun i _ => by rw [hC0]
  rw [← hC0] at hQ
  have k0 := hts (.fieldLink RX0 28 "UpDrain$DayWalk" "seed" "I") (List.mem_of_getElem? (i := 1) rfl)
  have nX0 : ∀ w ∈ u_ws RX0 TX0 8, w ∈ wsX0_draw := fun _ h => List.mem_cons_of_mem _ (List.mem_append_right _ h)
  have k2 := hts (.constant RX0 85 (65535)) (List.mem_of_getElem? (i := 2) rfl)
  have hE := lg_entry_eq m [.ref (ad 84)] 1
  rw [← hav] at hE
  rw [hE]
  have hl := lv_entry [.ref (ad 84)] (n := 1) (Nat.le_of_ble_eq_true rfl)
  generalize (lg_sl [.ref (ad 84)] ++ List.replicate (1 - (lg_sl [.ref (ad 84)]).length) Slot.unset).toArray = ls at hl ⊢
  have hl : lv_has ls 1 [(0, .ref (ad 84))] := hl
  clear hE
  unfold f_X0_draw at hf
  suffices hgo : ∀ (H : Heap) (locs : List Loc), va_P D vwCl (wd N ad C) H → va_S (Aw N ad s.heap.size) s.heap H locs → W p l e (headSpec wsX0_draw rmX0_draw).room s m args below meth c H locs 0 0 QQ (F0 m 0 ls []) from hgo s.heap [] hP hS
  clear hS hP
  intro H locs hP hS
  refine lv_aload_n hx hb dX0_draw_0 rfl (lv_at hl 0 rfl) ?_
  refine lv_aload_n hx hb dX0_draw_1 rfl (lv_at hl 0 rfl) ?_
  refine r_get (own := RX0) (T := TX0) (n := 8) (ci := 0) (v := .int d_seed) hx hb hts nX0 hown hK hP (by omega) h84 rfl 3 (by decide) k0 rfl dX0_draw_2 ?_
  refine lv_sipush (v := 25173) hx hb dX0_draw_5 (by decide) ?_
  refine lv_imul hx hb dX0_draw_8 ?_
  refine lv_sipush (v := 13849) hx hb dX0_draw_9 (by decide) ?_
  refine lv_iadd hx hb dX0_draw_12 ?_
  refine lv_ldc (own := RX0) hx hb hown k2 dX0_draw_13 ?_
  refine lv_iand hx hb dX0_draw_15 ?_
  obtain ⟨x1, ex1, hf⟩ := lt_e hf
  refine tp_i ex1 ?_
  refine r_put (own := RX0) (T := TX0) (n := 8) (ci := 0) (v := .int x1) hx hb hts nX0 tyX0 tyX0_ok nmX0 hown hK hI hAd hP hS (by omega) h84 rfl 3 (by decide) k0 rfl rfl rfl (Nat.le_of_ble_eq_true rfl) dX0_draw_16 (fun C H locs hP hS he hn => ?_)
  have hag : ∀ i : Nat, i ≠ 84 → C i = C0 i := fun i h => (he i (by omega)).trans (hag i h)
  have h84 : C 84 = .inr (0, [.ref (ad 5), .ref (ad 19), .ref (ad 77), .int x1, .int d_min, .int d_gue, .int d_src, .int d_lif]) := hn
  refine lv_aload_n hx hb dX0_draw_19 rfl (lv_at hl 0 rfl) ?_
  refine r_get (own := RX0) (T := TX0) (n := 8) (ci := 0) (v := .int x1) hx hb hts nX0 hown hK hP (by omega) h84 rfl 3 (by decide) k0 rfl dX0_draw_20 ?_
  refine lv_bipush (v := 64) hx hb dX0_draw_23 (by decide) ?_
  obtain ⟨z2, hf⟩ := nz_e hf
  refine lv_idiv hx hb dX0_draw_25 z2 ?_
  obtain rfl := Option.some.inj hf
  rw [← hQ]
  exact e_iW hx hb hr rfl (tP_i _) hP hS ⟨hag, h84⟩ hlocks dX0_draw_26

def LX0_drawSource_26 (t_lik : Nat → Int32) (w_src : Int32) (q1 : Int32 × Int32) (ko : Int32 → Int32 → Option (Int32 × Int32)) : Nat → Int32 → Int32 → Option (Int32 × Int32)
  | 0, _, _ => none
  | n + 1, x6, x7 =>
    if 12 ≤ x7 then
      ko x6 x7
    else
      (f_X10_has w_src x7).bind fun q11 =>
      if q11 = 0 then
        lt (x7 + 1 : Int32) fun x13 =>
        LX0_drawSource_26 t_lik w_src q1 ko n x6 x13
      else
        ri t_lik 12 (x7) fun x14 =>
        lt ((x6 - x14) : Int32) fun x16 =>
        if 0 ≤ x16 then
          lt (x7 + 1 : Int32) fun x18 =>
          LX0_drawSource_26 t_lik w_src q1 ko n x16 x18
        else
          some (x7, q1.2)
theorem LX0_drawSource_26_z (t_lik : Nat → Int32) (w_src : Int32) (q1 : Int32 × Int32) (ko : Int32 → Int32 → Option (Int32 × Int32)) (x6 : Int32) (x7 : Int32) : LX0_drawSource_26 t_lik w_src q1 ko 0 x6 x7 = none := rfl
theorem LX0_drawSource_26_s (t_lik : Nat → Int32) (w_src : Int32) (q1 : Int32 × Int32) (ko : Int32 → Int32 → Option (Int32 × Int32)) (n : Nat) (x6 : Int32) (x7 : Int32) : LX0_drawSource_26 t_lik w_src q1 ko (n + 1) x6 x7 =
    if 12 ≤ x7 then
      ko x6 x7
    else
      (f_X10_has w_src x7).bind fun q11 =>
      if q11 = 0 then
        lt (x7 + 1 : Int32) fun x13 =>
        LX0_drawSource_26 t_lik w_src q1 ko n x6 x13
      else
        ri t_lik 12 (x7) fun x14 =>
        lt ((x6 - x14) : Int32) fun x16 =>
        if 0 ≤ x16 then
          lt (x7 + 1 : Int32) fun x18 =>
          LX0_drawSource_26 t_lik w_src q1 ko n x16 x18
        else
          some (x7, q1.2) := rfl
def f_X0_drawSource (t_lik : Nat → Int32) (w_src : Int32) (d_seed : Int32) : Option (Int32 × Int32) :=
  (f_X0_draw d_seed).bind fun q1 =>
  (f_X9_likelyOf w_src t_lik).bind fun q2 =>
  lt ((if 1 < q2 then q2 else 1) : Int32) fun x3 =>
  nz (x3) <|
  lt ((q1.1 - q1.1 / x3 * x3) : Int32) fun x5 =>
  LX0_drawSource_26 t_lik w_src q1 (fun x8 x9 =>
    some ((-1), q1.2)) FU x5 0
abbrev rmX0_drawSource : Room := { frames := 2, cells := 0, slots := 0, locals := 44 }
set_option maxHeartbeats 4000000 in
set_option maxRecDepth 100000 in
theorem c_X0_drawSource {l : Launch} {D : va_G} {g : Nat → ClassId} {N : Nat} {ad : Nat → Nat} {C : Nat → va_E} {sz : Nat} {t_there : Int32} {t_lift : Int32} {t_none : Int32} {t_lik : Nat → Int32} {w_src : Int32} {d_seed : Int32} {d_min : Int32} {d_gue : Int32} {d_src : Int32} {d_lif : Int32}  {rr : Int32 × Int32} (hN : 86 ≤ N) (hI : Inj N ad) (h5 : C 5 = .inr (7, [.ref (ad 6), .ref (ad 7), .ref (ad 8), .ref (ad 9), .ref (ad 10), .ref (ad 11), .ref (ad 12), .ref (ad 13), .ref (ad 14), .ref (ad 15), .ref (ad 16), .ref (ad 17), .ref (ad 18), .int t_there, .int t_lift, .int t_none])) (h11 : C 11 = aI g 12 t_lik) (h19 : C 19 = .inr (9, [.ref (ad 5), .ref (ad 20), .int w_src])) (h84 : C 84 = .inr (0, [.ref (ad 5), .ref (ad 19), .ref (ad 77), .int d_seed, .int d_min, .int d_gue, .int d_src, .int d_lif])) (hf : f_X0_drawSource t_lik w_src d_seed = some rr) : Met l yX0_drawSource wsX0_drawSource rmX0_drawSource (PcW D g N ad C sz [.ref (ad 84)]) (QiW D N ad sz tP rr.1 (fun C' => (∀ i : Nat, i ≠ 84 → C' i = C i) ∧ (C' 84 = .inr (0, [.ref (ad 5), .ref (ad 19), .ref (ad 77), .int rr.2, .int d_min, .int d_gue, .int d_src, .int d_lif])))) 0 0 (Aw N ad sz) := by
  refine Met.ofW (cc := cX0_drawSource) (maxL := 3) (ret := (some .int)) (by decide) rfl ?_
  intro p e s m args below meth c s₁ B hml hv
  obtain ⟨hav, hsz, hK, hP⟩ := hv
  subst hsz
  have hx := B.exec
  have hb := B.bytes
  have hr := B.returns
  have hts := atoms_spec (ws := wsX0_drawSource) B.pre
  have hown : s.vm.findClass RX0 = some m.cls := findClass_of_methodNamed B.named
  have hlocks := B.notSynchronized
  generalize hQ : MQ below (QiW D N ad s.heap.size tP rr.1 (fun C' => (∀ i : Nat, i ≠ 84 → C' i = C i) ∧ (C' 84 = .inr (0, [.ref (ad 5), .ref (ad 19), .ref (ad 77), .int rr.2, .int d_min, .int d_gue, .int d_src, .int d_lif])))) args s 0 0 (Aw N ad s.heap.size) = QQ
  have hS : va_S (Aw N ad s.heap.size) s.heap s.heap [] := va_S.rf
  have hA : ∀ q, s.heap.size ≤ q → (Aw N ad s.heap.size) q := fun q h => Or.inr h
  have hAd : ∀ j : Nat, j < N → (Aw N ad s.heap.size) (ad j) := fun j h => Or.inl ⟨j, h, rfl⟩
  obtain ⟨C0, hC0⟩ : ∃ C0 : Nat → va_E, C0 = C := ⟨_, rfl⟩
  have hag : ∀ i : Nat, i ≠ 84 → C i = C0 i := fun i _ => by rw [hC0]
  rw [← hC0] at hQ
  have k0 := hts (.fieldLink RX0 15 "UpDrain$DayWalk" "ways" "LUpDrain$Ways;") (List.mem_of_getElem? (i := 1) rfl)
  have nX0 : ∀ w ∈ u_ws RX0 TX0 8, w ∈ wsX0_drawSource := fun _ h => List.mem_cons_of_mem _ (List.mem_append_left _ (List.mem_append_left _ (List.mem_append_right _ h)))
  have k2 := nf_51 (A := args) hK
  have nX9 : ∀ w ∈ u_ws RX9 TX9 3, w ∈ wsX0_drawSource := fun _ h => List.mem_cons_of_mem _ (List.mem_append_left _ (List.mem_append_right _ h))
  have k4 := hts (.methodLink RX0 92 Lib.Math.max.name) (List.mem_of_getElem? (i := 2) rfl)
  have k5 := hts (.static Lib.Math.max.name) (List.mem_of_getElem? (i := 3) rfl)
  have k6 := hts (.initialized "java/lang/Math") (List.mem_of_getElem? (i := 4) rfl)
  have k7 := hts (.code Lib.Math.max.name Lib.Math.max.code 2 (some .int)) (List.mem_of_getElem? (i := 5) rfl)
  have k8 := nm_10 hK
  have k9 := hts (.initialized RX10) (List.mem_of_getElem? (i := 21) rfl)
  have k10 := hts (.static yX10_has) (List.mem_of_getElem? (i := 20) rfl)
  have k11 := hts (.fieldLink RX0 9 "UpDrain$DayWalk" "plan" "LUpDrain$Town;") (List.mem_of_getElem? (i := 6) rfl)
  have k12 := nf_18 (A := args) hK
  have nX7 : ∀ w ∈ u_ws RX7 TX7 16, w ∈ wsX0_drawSource := fun _ h => List.mem_cons_of_mem _ (List.mem_append_right _ h)
  have hE := lg_entry_eq m [.ref (ad 84)] 3
  rw [← hav] at hE
  rw [hE]
  have hl := lv_entry [.ref (ad 84)] (n := 3) (Nat.le_of_ble_eq_true rfl)
  generalize (lg_sl [.ref (ad 84)] ++ List.replicate (3 - (lg_sl [.ref (ad 84)]).length) Slot.unset).toArray = ls at hl ⊢
  have hl : lv_has ls 3 [(0, .ref (ad 84))] := hl
  clear hE
  unfold f_X0_drawSource at hf
  suffices hgo : ∀ (H : Heap) (locs : List Loc), va_P D vwCl (wd N ad C) H → va_S (Aw N ad s.heap.size) s.heap H locs → W p l e (headSpec wsX0_drawSource rmX0_drawSource).room s m args below meth c H locs 0 0 QQ (F0 m 0 ls []) from hgo s.heap [] hP hS
  clear hS hP
  intro H locs hP hS
  refine lv_aload_n hx hb dX0_drawSource_0 rfl (lv_at hl 0 rfl) ?_
  obtain ⟨q1, hq1, hf⟩ := bd_e hf
  refine k_iW (va_runV (C := RX0) (As := []) (rest := []) ⟨hx, hb, hml, hown, hts⟩ (c_X0_draw (l := l) (sz := H.size)  hN hI h84 hq1) (cwV 0 hts gX0_drawSource_X0_draw rfl rfl rfl (by decide +kernel) ⟨Nat.le_of_ble_eq_true rfl, Nat.le_of_ble_eq_true rfl⟩) (preV_of hK hP (by omega) h84 rfl) rfl rfl hl.1 rfl (lv_room (Nat.le_of_ble_eq_true rfl)) dX0_drawSource_1 ⟨Nat.le_of_ble_eq_true rfl, Nat.le_of_ble_eq_true rfl⟩) hA hAd hS (fun C H locs hP hS hpo hbz_q1 => ?_)
  obtain ⟨he, h84⟩ := hpo
  have hag : ∀ i : Nat, i ≠ 84 → C i = C0 i := fun i h => (he i (by omega)).trans (hag i h)
  have h5 := (he 5 (by decide)).trans h5
  have h11 := (he 11 (by decide)).trans h11
  have h19 := (he 19 (by decide)).trans h19
  refine lv_iconst (v := 1) hx hb dX0_drawSource_4 (by decide) ?_
  refine lv_aload_n hx hb dX0_drawSource_5 rfl (lv_at hl 0 rfl) ?_
  refine r_get (own := RX0) (T := TX0) (n := 8) (ci := 0) (v := .ref (ad 19)) hx hb hts nX0 hown hK hP (by omega) h84 rfl 1 (by decide) k0 rfl dX0_drawSource_6 ?_
  refine lv_aload_n hx hb dX0_drawSource_9 rfl (lv_at hl 0 rfl) ?_
  refine r_get (own := RX0) (T := TX0) (n := 8) (ci := 0) (v := .ref (ad 19)) hx hb hts nX0 hown hK hP (by omega) h84 rfl 1 (by decide) k0 rfl dX0_drawSource_10 ?_
  refine r_getN (own := RX0) (T := TX9) (n := 3) (ci := 9) (v := .int w_src) hx hb hts nX9 hown hK hP (by omega) h19 rfl 2 (by decide) k2 rfl dX0_drawSource_13 ?_
  obtain ⟨q2, hq2, hf⟩ := bd_e hf
  refine k_iR (va_runV (C := RX9) (As := [.int w_src]) (rest := [.int 1, .int q1.1]) ⟨hx, hb, hml, hown, hts⟩ (c_X9_likelyOf (l := l) (sz := H.size) (p0 := w_src) hN h5 h11 h19 hq2) (cwV 1 hts gX0_drawSource_X9_likelyOf rfl rfl rfl (by decide +kernel) ⟨Nat.le_of_ble_eq_true rfl, Nat.le_of_ble_eq_true rfl⟩) (preV_of hK hP (by omega) h19 rfl) rfl rfl hl.1 rfl (lv_room (Nat.le_of_ble_eq_true rfl)) dX0_drawSource_16 ⟨Nat.le_of_ble_eq_true rfl, Nat.le_of_ble_eq_true rfl⟩) hA hP hS (fun H locs hP hS hbz_q2 => ?_)
  refine va_mmax (own := RX0) hx hb (hml.trans hl.1.symm) hown k4 k5 k6 k7 (Nat.le_of_ble_eq_true rfl) (Nat.le_of_ble_eq_true rfl) (Nat.le_refl _) (Nat.le_refl _) dX0_drawSource_19 ?_
  obtain ⟨x3, ex3, hf⟩ := lt_e hf
  refine tp_i ex3 ?_
  obtain ⟨z4, hf⟩ := nz_e hf
  refine lv_irem hx hb dX0_drawSource_22 z4 ?_
  obtain ⟨x5, ex5, hf⟩ := lt_e hf
  refine tp_i ex5 ?_
  refine lv_istore_n (lv' := [(1, .int x5), (0, .ref (ad 84))]) hx hb dX0_drawSource_23 rfl hl (by decide) rfl (fun ls hl => ?_)
  refine lv_iconst (v := 0) hx hb dX0_drawSource_24 (by decide) ?_
  refine lv_istore_n (lv' := [(2, .int 0), (1, .int x5), (0, .ref (ad 84))]) hx hb dX0_drawSource_25 rfl hl (by decide) rfl (fun ls hl => ?_)
  have key26 : ∀ (ko : Int32 → Int32 → Option (Int32 × Int32)), (∀ (x8 : Int32) (x9 : Int32) (C : Nat → va_E) (H : Heap) (locs : List Loc) (ls : Array Slot), va_P D vwCl (wd N ad C) H → va_S (Aw N ad s.heap.size) s.heap H locs → (∀ i : Nat, i ≠ 84 → C i = C0 i) → C 5 = .inr (7, [.ref (ad 6), .ref (ad 7), .ref (ad 8), .ref (ad 9), .ref (ad 10), .ref (ad 11), .ref (ad 12), .ref (ad 13), .ref (ad 14), .ref (ad 15), .ref (ad 16), .ref (ad 17), .ref (ad 18), .int t_there, .int t_lift, .int t_none]) → C 11 = aI g 12 t_lik → C 19 = .inr (9, [.ref (ad 5), .ref (ad 20), .int w_src]) → C 84 = .inr (0, [.ref (ad 5), .ref (ad 19), .ref (ad 77), .int q1.2, .int d_min, .int d_gue, .int d_src, .int d_lif]) → lv_has ls 3 [(0, .ref (ad 84)), (1, .int x8), (2, .int x9)] → ko x8 x9 = some rr → W p l e (headSpec wsX0_drawSource rmX0_drawSource).room s m args below meth c H locs 0 0 QQ (F0 m 70 ls [])) → ∀ (n : Nat) (x6 : Int32) (x7 : Int32) (C : Nat → va_E) (H : Heap) (locs : List Loc) (ls : Array Slot), va_P D vwCl (wd N ad C) H → va_S (Aw N ad s.heap.size) s.heap H locs → (∀ i : Nat, i ≠ 84 → C i = C0 i) → C 5 = .inr (7, [.ref (ad 6), .ref (ad 7), .ref (ad 8), .ref (ad 9), .ref (ad 10), .ref (ad 11), .ref (ad 12), .ref (ad 13), .ref (ad 14), .ref (ad 15), .ref (ad 16), .ref (ad 17), .ref (ad 18), .int t_there, .int t_lift, .int t_none]) → C 11 = aI g 12 t_lik → C 19 = .inr (9, [.ref (ad 5), .ref (ad 20), .int w_src]) → C 84 = .inr (0, [.ref (ad 5), .ref (ad 19), .ref (ad 77), .int q1.2, .int d_min, .int d_gue, .int d_src, .int d_lif]) → lv_has ls 3 [(0, .ref (ad 84)), (1, .int x6), (2, .int x7)] → LX0_drawSource_26 t_lik w_src q1 ko n x6 x7 = some rr → W p l e (headSpec wsX0_drawSource rmX0_drawSource).room s m args below meth c H locs 0 0 QQ (F0 m 26 ls []) := by
    intro ko hko n
    induction n with
    | zero =>
      intro x6 x7 C H locs ls hP hS hag h5 h11 h19 h84 hl hf
      rw [LX0_drawSource_26_z] at hf
      cases hf
    | succ n ih =>
      intro x6 x7 C H locs ls hP hS hag h5 h11 h19 h84 hl hf
      rw [LX0_drawSource_26_s] at hf
      refine lv_iload_n hx hb dX0_drawSource_26 rfl (lv_at hl 2 rfl) ?_
      refine lv_bipush (v := 12) hx hb dX0_drawSource_27 (by decide) ?_
      refine lv_icmp_ge (tgt := 70) hx hb dX0_drawSource_29 (by decide) (fun c10 => ?_) (fun c10 => ?_)
      · have hf := it_e c10 hf
        exact hko x6 x7 C H locs ls hP hS hag h5 h11 h19 h84 (lv_sub hl [0, 1, 2] rfl) hf
      · have hf := ie_e c10 hf
        refine lv_aload_n hx hb dX0_drawSource_32 rfl (lv_at hl 0 rfl) ?_
        refine r_get (own := RX0) (T := TX0) (n := 8) (ci := 0) (v := .ref (ad 19)) hx hb hts nX0 hown hK hP (by omega) h84 rfl 1 (by decide) k0 rfl dX0_drawSource_33 ?_
        refine r_getN (own := RX0) (T := TX9) (n := 3) (ci := 9) (v := .int w_src) hx hb hts nX9 hown hK hP (by omega) h19 rfl 2 (by decide) k2 rfl dX0_drawSource_36 ?_
        refine lv_iload_n hx hb dX0_drawSource_39 rfl (lv_at hl 2 rfl) ?_
        obtain ⟨q11, hq11, hf⟩ := bd_e hf
        refine k_iR (va_runSN (As := [.int w_src, .int x7]) (rest := []) ⟨hx, hb, hml, hown, hts⟩ (c_X10_has (l := l) (sz := H.size) (p0 := w_src) (p1 := x7) hq11) ⟨va_cnB 2 hts gX0_drawSource_X10_has_n82 rfl rfl rfl k8 k9 (by decide +kernel) ⟨Nat.le_of_ble_eq_true rfl, Nat.le_of_ble_eq_true rfl⟩, k10, trivial⟩ preS0 rfl rfl hl.1 rfl (lv_room (Nat.le_of_ble_eq_true rfl)) dX0_drawSource_40 ⟨Nat.le_of_ble_eq_true rfl, Nat.le_of_ble_eq_true rfl⟩) hA hP hS (fun H locs hP hS hbz_q11 => ?_)
        refine lv_if_eq (tgt := 64) hx hb dX0_drawSource_43 (by decide) (fun c12 => ?_) (fun c12 => ?_)
        · have hf := it_e c12 hf
          obtain ⟨x13, ex13, hf⟩ := lt_e hf
          refine lv_iinc (v := x13) (lv' := [(2, .int x13), (0, .ref (ad 84)), (1, .int x6)]) hx hb dX0_drawSource_64 hl (k := 2) rfl (by rw [ex13]; rfl) (by decide) rfl (fun ls hl => ?_)
          refine lv_goto (tgt := 26) hx hb dX0_drawSource_67 (by decide) ?_
          exact ih x6 x13 C H locs ls hP hS hag h5 h11 h19 h84 (lv_sub hl [1, 2, 0] rfl) hf
        · have hf := ie_e c12 hf
          refine lv_iload_n hx hb dX0_drawSource_46 rfl (lv_at hl 1 rfl) ?_
          refine lv_aload_n hx hb dX0_drawSource_47 rfl (lv_at hl 0 rfl) ?_
          refine r_get (own := RX0) (T := TX0) (n := 8) (ci := 0) (v := .ref (ad 5)) hx hb hts nX0 hown hK hP (by omega) h84 rfl 0 (by decide) k11 rfl dX0_drawSource_48 ?_
          refine r_getN (own := RX0) (T := TX7) (n := 16) (ci := 7) (v := .ref (ad 11)) hx hb hts nX7 hown hK hP (by omega) h5 rfl 5 (by decide) k12 rfl dX0_drawSource_51 ?_
          refine lv_iload_n hx hb dX0_drawSource_54 rfl (lv_at hl 2 rfl) ?_
          obtain ⟨i15, x14, ex14, hf⟩ := ri_e hf
          refine r_iald hx hb hK hP (by omega) h11 i15 dX0_drawSource_55 ex14 ?_
          refine lv_isub hx hb dX0_drawSource_56 ?_
          obtain ⟨x16, ex16, hf⟩ := lt_e hf
          refine tp_i ex16 ?_
          refine lv_istore_n (lv' := [(1, .int x16), (0, .ref (ad 84)), (2, .int x7)]) hx hb dX0_drawSource_57 rfl hl (by decide) rfl (fun ls hl => ?_)
          refine lv_iload_n hx hb dX0_drawSource_58 rfl (lv_at hl 0 rfl) ?_
          refine lv_if_ge (tgt := 64) hx hb dX0_drawSource_59 (by decide) (fun c17 => ?_) (fun c17 => ?_)
          · have hf := it_e c17 hf
            obtain ⟨x18, ex18, hf⟩ := lt_e hf
            refine lv_iinc (v := x18) (lv' := [(2, .int x18), (1, .int x16), (0, .ref (ad 84))]) hx hb dX0_drawSource_64 hl (k := 2) rfl (by rw [ex18]; rfl) (by decide) rfl (fun ls hl => ?_)
            refine lv_goto (tgt := 26) hx hb dX0_drawSource_67 (by decide) ?_
            exact ih x16 x18 C H locs ls hP hS hag h5 h11 h19 h84 (lv_sub hl [2, 1, 0] rfl) hf
          · have hf := ie_e c17 hf
            refine lv_iload_n hx hb dX0_drawSource_62 rfl (lv_at hl 2 rfl) ?_
            obtain rfl := Option.some.inj hf
            rw [← hQ]
            exact e_iW hx hb hr rfl (tP_i _) hP hS ⟨hag, h84⟩ hlocks dX0_drawSource_63
  refine key26 _ (fun x8 x9 C H locs ls hP hS hag h5 h11 h19 h84 hl hf => ?_) FU x5 0 C H locs ls hP hS hag h5 h11 h19 h84 (lv_sub hl [2, 1, 0] rfl) hf
  refine lv_iconst (v := (-1)) hx hb dX0_drawSource_70 (by decide) ?_
  obtain rfl := Option.some.inj hf
  rw [← hQ]
  exact e_iW hx hb hr rfl (tP_i _) hP hS ⟨hag, h84⟩ hlocks dX0_drawSource_71

def f_X0_drawAnswer (p0 : Int32) (p1 : Int32) (t_wy : Nat → Int32) (t_wn : Nat → Int32) (w_over : Nat → Int32) (d_seed : Int32) (d_src : Int32) : Option (Int32 × Int32) :=
  ri w_over 12 (p0) fun x1 =>
  (f_X10_has x1 d_src).bind fun q3 =>
  (if q3 = 0 then
    ri t_wy 4 (p1) fun x10 =>
    some (x10)
  else
    ri t_wn 4 (p1) fun x12 =>
    some (x12) : Option (Int32)).bind fun q4 =>
  (f_X0_draw d_seed).bind fun q5 =>
  nz (10) <|
  if q4 ≤ (q5.1 - q5.1 / 10 * 10) then
    some (q3, q5.2)
  else
    if q3 = 0 then
      some (1, q5.2)
    else
      some (0, q5.2)
abbrev rmX0_drawAnswer : Room := { frames := 1, cells := 0, slots := 0, locals := 21 }
set_option maxHeartbeats 4000000 in
set_option maxRecDepth 100000 in
theorem c_X0_drawAnswer {l : Launch} {D : va_G} {g : Nat → ClassId} {N : Nat} {ad : Nat → Nat} {C : Nat → va_E} {sz : Nat} {t_there : Int32} {t_lift : Int32} {t_none : Int32} {t_wy : Nat → Int32} {t_wn : Nat → Int32} {w_src : Int32} {w_over : Nat → Int32} {d_seed : Int32} {d_min : Int32} {d_gue : Int32} {d_src : Int32} {d_lif : Int32} {p0 : Int32} {p1 : Int32} {rr : Int32 × Int32} (hN : 86 ≤ N) (hI : Inj N ad) (h5 : C 5 = .inr (7, [.ref (ad 6), .ref (ad 7), .ref (ad 8), .ref (ad 9), .ref (ad 10), .ref (ad 11), .ref (ad 12), .ref (ad 13), .ref (ad 14), .ref (ad 15), .ref (ad 16), .ref (ad 17), .ref (ad 18), .int t_there, .int t_lift, .int t_none])) (h17 : C 17 = aI g 4 t_wy) (h18 : C 18 = aI g 4 t_wn) (h19 : C 19 = .inr (9, [.ref (ad 5), .ref (ad 20), .int w_src])) (h20 : C 20 = aI g 12 w_over) (h84 : C 84 = .inr (0, [.ref (ad 5), .ref (ad 19), .ref (ad 77), .int d_seed, .int d_min, .int d_gue, .int d_src, .int d_lif])) (hf : f_X0_drawAnswer p0 p1 t_wy t_wn w_over d_seed d_src = some rr) : Met l yX0_drawAnswer wsX0_drawAnswer rmX0_drawAnswer (PcW D g N ad C sz [.ref (ad 84), .int p0, .int p1]) (QiW D N ad sz bz rr.1 (fun C' => (∀ i : Nat, i ≠ 84 → C' i = C i) ∧ (C' 84 = .inr (0, [.ref (ad 5), .ref (ad 19), .ref (ad 77), .int rr.2, .int d_min, .int d_gue, .int d_src, .int d_lif])))) 0 0 (Aw N ad sz) := by
  refine Met.ofW (cc := cX0_drawAnswer) (maxL := 5) (ret := (some .boolean)) (by decide) rfl ?_
  intro p e s m args below meth c s₁ B hml hv
  obtain ⟨hav, hsz, hK, hP⟩ := hv
  subst hsz
  have hx := B.exec
  have hb := B.bytes
  have hr := B.returns
  have hts := atoms_spec (ws := wsX0_drawAnswer) B.pre
  have hown : s.vm.findClass RX0 = some m.cls := findClass_of_methodNamed B.named
  have hlocks := B.notSynchronized
  generalize hQ : MQ below (QiW D N ad s.heap.size bz rr.1 (fun C' => (∀ i : Nat, i ≠ 84 → C' i = C i) ∧ (C' 84 = .inr (0, [.ref (ad 5), .ref (ad 19), .ref (ad 77), .int rr.2, .int d_min, .int d_gue, .int d_src, .int d_lif])))) args s 0 0 (Aw N ad s.heap.size) = QQ
  have hS : va_S (Aw N ad s.heap.size) s.heap s.heap [] := va_S.rf
  have hA : ∀ q, s.heap.size ≤ q → (Aw N ad s.heap.size) q := fun q h => Or.inr h
  have hAd : ∀ j : Nat, j < N → (Aw N ad s.heap.size) (ad j) := fun j h => Or.inl ⟨j, h, rfl⟩
  obtain ⟨C0, hC0⟩ : ∃ C0 : Nat → va_E, C0 = C := ⟨_, rfl⟩
  have hag : ∀ i : Nat, i ≠ 84 → C i = C0 i := fun i _ => by rw [hC0]
  rw [← hC0] at hQ
  have k0 := hts (.fieldLink RX0 15 "UpDrain$DayWalk" "ways" "LUpDrain$Ways;") (List.mem_of_getElem? (i := 1) rfl)
  have nX0 : ∀ w ∈ u_ws RX0 TX0 8, w ∈ wsX0_drawAnswer := fun _ h => List.mem_cons_of_mem _ (List.mem_append_left _ (List.mem_append_left _ (List.mem_append_right _ h)))
  have k2 := nf_47 (A := args) hK
  have nX9 : ∀ w ∈ u_ws RX9 TX9 3, w ∈ wsX0_drawAnswer := fun _ h => List.mem_cons_of_mem _ (List.mem_append_left _ (List.mem_append_right _ h))
  have k4 := hts (.fieldLink RX0 42 "UpDrain$DayWalk" "source" "I") (List.mem_of_getElem? (i := 2) rfl)
  have k5 := nm_10 hK
  have k6 := hts (.initialized RX10) (List.mem_of_getElem? (i := 5) rfl)
  have k7 := hts (.static yX10_has) (List.mem_of_getElem? (i := 4) rfl)
  have k8 := hts (.fieldLink RX0 9 "UpDrain$DayWalk" "plan" "LUpDrain$Town;") (List.mem_of_getElem? (i := 3) rfl)
  have k9 := nf_30 (A := args) hK
  have nX7 : ∀ w ∈ u_ws RX7 TX7 16, w ∈ wsX0_drawAnswer := fun _ h => List.mem_cons_of_mem _ (List.mem_append_right _ h)
  have k11 := nf_33 (A := args) hK
  have hE := lg_entry_eq m [.ref (ad 84), .int p0, .int p1] 5
  rw [← hav] at hE
  rw [hE]
  have hl := lv_entry [.ref (ad 84), .int p0, .int p1] (n := 5) (Nat.le_of_ble_eq_true rfl)
  generalize (lg_sl [.ref (ad 84), .int p0, .int p1] ++ List.replicate (5 - (lg_sl [.ref (ad 84), .int p0, .int p1]).length) Slot.unset).toArray = ls at hl ⊢
  have hl : lv_has ls 5 [(0, .ref (ad 84)), (1, .int p0), (2, .int p1)] := hl
  clear hE
  unfold f_X0_drawAnswer at hf
  suffices hgo : ∀ (H : Heap) (locs : List Loc), va_P D vwCl (wd N ad C) H → va_S (Aw N ad s.heap.size) s.heap H locs → W p l e (headSpec wsX0_drawAnswer rmX0_drawAnswer).room s m args below meth c H locs 0 0 QQ (F0 m 0 ls []) from hgo s.heap [] hP hS
  clear hS hP
  intro H locs hP hS
  refine lv_aload_n hx hb dX0_drawAnswer_0 rfl (lv_at hl 0 rfl) ?_
  refine r_get (own := RX0) (T := TX0) (n := 8) (ci := 0) (v := .ref (ad 19)) hx hb hts nX0 hown hK hP (by omega) h84 rfl 1 (by decide) k0 rfl dX0_drawAnswer_1 ?_
  refine r_getN (own := RX0) (T := TX9) (n := 3) (ci := 9) (v := .ref (ad 20)) hx hb hts nX9 hown hK hP (by omega) h19 rfl 1 (by decide) k2 rfl dX0_drawAnswer_4 ?_
  refine lv_iload_n hx hb dX0_drawAnswer_7 rfl (lv_at hl 1 rfl) ?_
  obtain ⟨i2, x1, ex1, hf⟩ := ri_e hf
  refine r_iald hx hb hK hP (by omega) h20 i2 dX0_drawAnswer_8 ex1 ?_
  refine lv_aload_n hx hb dX0_drawAnswer_9 rfl (lv_at hl 0 rfl) ?_
  refine r_get (own := RX0) (T := TX0) (n := 8) (ci := 0) (v := .int d_src) hx hb hts nX0 hown hK hP (by omega) h84 rfl 6 (by decide) k4 rfl dX0_drawAnswer_10 ?_
  obtain ⟨q3, hq3, hf⟩ := bd_e hf
  refine k_iR (va_runSN (As := [.int x1, .int d_src]) (rest := []) ⟨hx, hb, hml, hown, hts⟩ (c_X10_has (l := l) (sz := H.size) (p0 := x1) (p1 := d_src) hq3) ⟨va_cnB 2 hts gX0_drawAnswer_X10_has_n82 rfl rfl rfl k5 k6 (by decide +kernel) ⟨Nat.le_of_ble_eq_true rfl, Nat.le_of_ble_eq_true rfl⟩, k7, trivial⟩ preS0 rfl rfl hl.1 rfl (lv_room (Nat.le_of_ble_eq_true rfl)) dX0_drawAnswer_13 ⟨Nat.le_of_ble_eq_true rfl, Nat.le_of_ble_eq_true rfl⟩) hA hP hS (fun H locs hP hS hbz_q3 => ?_)
  refine lv_istore_n (lv' := [(3, .int q3), (0, .ref (ad 84)), (1, .int p0), (2, .int p1)]) hx hb dX0_drawAnswer_16 rfl hl (by decide) rfl (fun ls hl => ?_)
  refine lv_iload_n hx hb dX0_drawAnswer_17 rfl (lv_at hl 0 rfl) ?_
  obtain ⟨q4, htq4, hf⟩ := bd_e hf
  have jnq4 : ∀ (C : Nat → va_E) (H : Heap) (locs : List Loc) (ls : Array Slot), va_P D vwCl (wd N ad C) H → va_S (Aw N ad s.heap.size) s.heap H locs → (∀ i : Nat, i ≠ 84 → C i = C0 i) → C 5 = .inr (7, [.ref (ad 6), .ref (ad 7), .ref (ad 8), .ref (ad 9), .ref (ad 10), .ref (ad 11), .ref (ad 12), .ref (ad 13), .ref (ad 14), .ref (ad 15), .ref (ad 16), .ref (ad 17), .ref (ad 18), .int t_there, .int t_lift, .int t_none]) → C 17 = aI g 4 t_wy → C 18 = aI g 4 t_wn → C 19 = .inr (9, [.ref (ad 5), .ref (ad 20), .int w_src]) → C 20 = aI g 12 w_over → C 84 = .inr (0, [.ref (ad 5), .ref (ad 19), .ref (ad 77), .int d_seed, .int d_min, .int d_gue, .int d_src, .int d_lif]) → lv_has ls 5 [(0, .ref (ad 84)), (1, .int p0), (2, .int p1), (3, .int q3)] → W p l e (headSpec wsX0_drawAnswer rmX0_drawAnswer).room s m args below meth c H locs 0 0 QQ (F0 m 42 ls [.int q4]) := by
    intro C H locs ls hP hS hag h5 h17 h18 h19 h20 h84 hl
    refine lv_istore (lv' := [(4, .int q4), (0, .ref (ad 84)), (1, .int p0), (2, .int p1), (3, .int q3)]) hx hb dX0_drawAnswer_42 hl (by decide) rfl (fun ls hl => ?_)
    refine lv_aload_n hx hb dX0_drawAnswer_44 rfl (lv_at hl 1 rfl) ?_
    obtain ⟨q5, hq5, hf⟩ := bd_e hf
    refine k_iW (va_runV (C := RX0) (As := []) (rest := []) ⟨hx, hb, hml, hown, hts⟩ (c_X0_draw (l := l) (sz := H.size)  hN hI h84 hq5) (cwV 0 hts gX0_drawAnswer_X0_draw rfl rfl rfl (by decide +kernel) ⟨Nat.le_of_ble_eq_true rfl, Nat.le_of_ble_eq_true rfl⟩) (preV_of hK hP (by omega) h84 rfl) rfl rfl hl.1 rfl (lv_room (Nat.le_of_ble_eq_true rfl)) dX0_drawAnswer_45 ⟨Nat.le_of_ble_eq_true rfl, Nat.le_of_ble_eq_true rfl⟩) hA hAd hS (fun C H locs hP hS hpo hbz_q5 => ?_)
    obtain ⟨he, h84⟩ := hpo
    have hag : ∀ i : Nat, i ≠ 84 → C i = C0 i := fun i h => (he i (by omega)).trans (hag i h)
    have h5 := (he 5 (by decide)).trans h5
    have h17 := (he 17 (by decide)).trans h17
    have h18 := (he 18 (by decide)).trans h18
    have h19 := (he 19 (by decide)).trans h19
    have h20 := (he 20 (by decide)).trans h20
    refine lv_bipush (v := 10) hx hb dX0_drawAnswer_48 (by decide) ?_
    obtain ⟨z6, hf⟩ := nz_e hf
    refine lv_irem hx hb dX0_drawAnswer_50 z6 ?_
    refine lv_iload hx hb dX0_drawAnswer_51 (lv_at hl 0 rfl) ?_
    refine lv_icmp_ge (tgt := 68) hx hb dX0_drawAnswer_53 (by decide) (fun c7 => ?_) (fun c7 => ?_)
    · have hf := it_e c7 hf
      refine lv_iload_n hx hb dX0_drawAnswer_68 rfl (lv_at hl 4 rfl) ?_
      obtain rfl := Option.some.inj hf
      rw [← hQ]
      exact e_zW hx hb hr rfl hbz_q3 hP hS ⟨hag, h84⟩ hlocks dX0_drawAnswer_69
    · have hf := ie_e c7 hf
      refine lv_iload_n hx hb dX0_drawAnswer_56 rfl (lv_at hl 4 rfl) ?_
      refine lv_if_ne (tgt := 64) hx hb dX0_drawAnswer_57 (by decide) (fun c8 => ?_) (fun c8 => ?_)
      · have hf := ie_e c8 hf
        refine lv_iconst (v := 0) hx hb dX0_drawAnswer_64 (by decide) ?_
        refine lv_goto (tgt := 69) hx hb dX0_drawAnswer_65 (by decide) ?_
        obtain rfl := Option.some.inj hf
        rw [← hQ]
        exact e_zW hx hb hr rfl bz0 hP hS ⟨hag, h84⟩ hlocks dX0_drawAnswer_69
      · have hf := it_e c8 hf
        refine lv_iconst (v := 1) hx hb dX0_drawAnswer_60 (by decide) ?_
        refine lv_goto (tgt := 69) hx hb dX0_drawAnswer_61 (by decide) ?_
        obtain rfl := Option.some.inj hf
        rw [← hQ]
        exact e_zW hx hb hr rfl bz1 hP hS ⟨hag, h84⟩ hlocks dX0_drawAnswer_69
  clear hf
  have hf := htq4
  refine lv_if_eq (tgt := 33) hx hb dX0_drawAnswer_18 (by decide) (fun c9 => ?_) (fun c9 => ?_)
  · have hf := it_e c9 hf
    refine lv_aload_n hx hb dX0_drawAnswer_33 rfl (lv_at hl 1 rfl) ?_
    refine r_get (own := RX0) (T := TX0) (n := 8) (ci := 0) (v := .ref (ad 5)) hx hb hts nX0 hown hK hP (by omega) h84 rfl 0 (by decide) k8 rfl dX0_drawAnswer_34 ?_
    refine r_getN (own := RX0) (T := TX7) (n := 16) (ci := 7) (v := .ref (ad 17)) hx hb hts nX7 hown hK hP (by omega) h5 rfl 11 (by decide) k9 rfl dX0_drawAnswer_37 ?_
    refine lv_iload_n hx hb dX0_drawAnswer_40 rfl (lv_at hl 3 rfl) ?_
    obtain ⟨i11, x10, ex10, hf⟩ := ri_e hf
    refine r_iald hx hb hK hP (by omega) h17 i11 dX0_drawAnswer_41 ex10 ?_
    obtain rfl := Option.some.inj hf
    exact jnq4 C H locs ls hP hS hag h5 h17 h18 h19 h20 h84 (lv_sub hl [1, 2, 3, 0] rfl)
  · have hf := ie_e c9 hf
    refine lv_aload_n hx hb dX0_drawAnswer_21 rfl (lv_at hl 1 rfl) ?_
    refine r_get (own := RX0) (T := TX0) (n := 8) (ci := 0) (v := .ref (ad 5)) hx hb hts nX0 hown hK hP (by omega) h84 rfl 0 (by decide) k8 rfl dX0_drawAnswer_22 ?_
    refine r_getN (own := RX0) (T := TX7) (n := 16) (ci := 7) (v := .ref (ad 18)) hx hb hts nX7 hown hK hP (by omega) h5 rfl 12 (by decide) k11 rfl dX0_drawAnswer_25 ?_
    refine lv_iload_n hx hb dX0_drawAnswer_28 rfl (lv_at hl 3 rfl) ?_
    obtain ⟨i13, x12, ex12, hf⟩ := ri_e hf
    refine r_iald hx hb hK hP (by omega) h18 i13 dX0_drawAnswer_29 ex12 ?_
    refine lv_goto (tgt := 42) hx hb dX0_drawAnswer_30 (by decide) ?_
    obtain rfl := Option.some.inj hf
    exact jnq4 C H locs ls hP hS hag h5 h17 h18 h19 h20 h84 (lv_sub hl [1, 2, 3, 0] rfl)

def LX0_leastOf_2 (p0 : Int32) (ko : Int32 → Option (Int32)) : Nat → Int32 → Option (Int32)
  | 0, _ => none
  | n + 1, x1 =>
    if 12 ≤ x1 then
      ko x1
    else
      (f_X10_has p0 x1).bind fun q4 =>
      if q4 = 0 then
        lt (x1 + 1 : Int32) fun x6 =>
        LX0_leastOf_2 p0 ko n x6
      else
        some (x1)
theorem LX0_leastOf_2_z (p0 : Int32) (ko : Int32 → Option (Int32)) (x1 : Int32) : LX0_leastOf_2 p0 ko 0 x1 = none := rfl
theorem LX0_leastOf_2_s (p0 : Int32) (ko : Int32 → Option (Int32)) (n : Nat) (x1 : Int32) : LX0_leastOf_2 p0 ko (n + 1) x1 =
    if 12 ≤ x1 then
      ko x1
    else
      (f_X10_has p0 x1).bind fun q4 =>
      if q4 = 0 then
        lt (x1 + 1 : Int32) fun x6 =>
        LX0_leastOf_2 p0 ko n x6
      else
        some (x1) := rfl
def f_X0_leastOf (p0 : Int32) : Option (Int32) :=
  LX0_leastOf_2 p0 (fun x2 =>
    some ((-1))) FU 0
abbrev rmX0_leastOf : Room := { frames := 1, cells := 0, slots := 0, locals := 21 }
set_option maxHeartbeats 4000000 in
set_option maxRecDepth 100000 in
theorem c_X0_leastOf {l : Launch} {D : va_G} {g : Nat → ClassId} {N : Nat} {ad : Nat → Nat} {C : Nat → va_E} {sz : Nat}  {p0 : Int32} {rr : Int32} (hN : 86 ≤ N) (hf : f_X0_leastOf p0 = some rr) : Met l yX0_leastOf wsX0_leastOf rmX0_leastOf (PcW D g N ad C sz [.int p0]) (QiR sz tP rr) 0 0 (An sz) := by
  refine Met.ofW (cc := cX0_leastOf) (maxL := 2) (ret := (some .int)) (by decide) rfl ?_
  intro p e s m args below meth c s₁ B hml hv
  obtain ⟨hav, hsz, hK, hP⟩ := hv
  subst hsz
  have hx := B.exec
  have hb := B.bytes
  have hr := B.returns
  have hts := atoms_spec (ws := wsX0_leastOf) B.pre
  have hown : s.vm.findClass RX0 = some m.cls := findClass_of_methodNamed B.named
  have hlocks := B.notSynchronized
  generalize hQ : MQ below (QiR s.heap.size tP rr) args s 0 0 (An s.heap.size) = QQ
  have hS : va_S (An s.heap.size) s.heap s.heap [] := va_S.rf
  have hA : ∀ q, s.heap.size ≤ q → (An s.heap.size) q := fun q h => h
  have k0 := nm_10 hK
  have k1 := hts (.initialized RX10) (List.mem_of_getElem? (i := 2) rfl)
  have k2 := hts (.static yX10_has) (List.mem_of_getElem? (i := 1) rfl)
  have hE := lg_entry_eq m [.int p0] 2
  rw [← hav] at hE
  rw [hE]
  have hl := lv_entry [.int p0] (n := 2) (Nat.le_of_ble_eq_true rfl)
  generalize (lg_sl [.int p0] ++ List.replicate (2 - (lg_sl [.int p0]).length) Slot.unset).toArray = ls at hl ⊢
  have hl : lv_has ls 2 [(0, .int p0)] := hl
  clear hE
  unfold f_X0_leastOf at hf
  suffices hgo : ∀ (H : Heap) (locs : List Loc), va_P D vwCl (wd N ad C) H → va_S (An s.heap.size) s.heap H locs → W p l e (headSpec wsX0_leastOf rmX0_leastOf).room s m args below meth c H locs 0 0 QQ (F0 m 0 ls []) from hgo s.heap [] hP hS
  clear hS hP
  intro H locs hP hS
  refine lv_iconst (v := 0) hx hb dX0_leastOf_0 (by decide) ?_
  refine lv_istore_n (lv' := [(1, .int 0), (0, .int p0)]) hx hb dX0_leastOf_1 rfl hl (by decide) rfl (fun ls hl => ?_)
  have key2 : ∀ (ko : Int32 → Option (Int32)), (∀ (x2 : Int32) (C : Nat → va_E) (H : Heap) (locs : List Loc) (ls : Array Slot), va_P D vwCl (wd N ad C) H → va_S (An s.heap.size) s.heap H locs → lv_has ls 2 [(0, .int p0), (1, .int x2)] → ko x2 = some rr → W p l e (headSpec wsX0_leastOf rmX0_leastOf).room s m args below meth c H locs 0 0 QQ (F0 m 24 ls [])) → ∀ (n : Nat) (x1 : Int32) (C : Nat → va_E) (H : Heap) (locs : List Loc) (ls : Array Slot), va_P D vwCl (wd N ad C) H → va_S (An s.heap.size) s.heap H locs → lv_has ls 2 [(0, .int p0), (1, .int x1)] → LX0_leastOf_2 p0 ko n x1 = some rr → W p l e (headSpec wsX0_leastOf rmX0_leastOf).room s m args below meth c H locs 0 0 QQ (F0 m 2 ls []) := by
    intro ko hko n
    induction n with
    | zero =>
      intro x1 C H locs ls hP hS hl hf
      rw [LX0_leastOf_2_z] at hf
      cases hf
    | succ n ih =>
      intro x1 C H locs ls hP hS hl hf
      rw [LX0_leastOf_2_s] at hf
      refine lv_iload_n hx hb dX0_leastOf_2 rfl (lv_at hl 1 rfl) ?_
      refine lv_bipush (v := 12) hx hb dX0_leastOf_3 (by decide) ?_
      refine lv_icmp_ge (tgt := 24) hx hb dX0_leastOf_5 (by decide) (fun c3 => ?_) (fun c3 => ?_)
      · have hf := it_e c3 hf
        exact hko x1 C H locs ls hP hS (lv_sub hl [0, 1] rfl) hf
      · have hf := ie_e c3 hf
        refine lv_iload_n hx hb dX0_leastOf_8 rfl (lv_at hl 0 rfl) ?_
        refine lv_iload_n hx hb dX0_leastOf_9 rfl (lv_at hl 1 rfl) ?_
        obtain ⟨q4, hq4, hf⟩ := bd_e hf
        refine k_iR (va_runSN (As := [.int p0, .int x1]) (rest := []) ⟨hx, hb, hml, hown, hts⟩ (c_X10_has (l := l) (sz := H.size) (p0 := p0) (p1 := x1) hq4) ⟨va_cnB 2 hts gX0_leastOf_X10_has_n82 rfl rfl rfl k0 k1 (by decide +kernel) ⟨Nat.le_of_ble_eq_true rfl, Nat.le_of_ble_eq_true rfl⟩, k2, trivial⟩ preS0 rfl rfl hl.1 rfl (lv_room (Nat.le_of_ble_eq_true rfl)) dX0_leastOf_10 ⟨Nat.le_of_ble_eq_true rfl, Nat.le_of_ble_eq_true rfl⟩) hA hP hS (fun H locs hP hS hbz_q4 => ?_)
        refine lv_if_eq (tgt := 18) hx hb dX0_leastOf_13 (by decide) (fun c5 => ?_) (fun c5 => ?_)
        · have hf := it_e c5 hf
          obtain ⟨x6, ex6, hf⟩ := lt_e hf
          refine lv_iinc (v := x6) (lv' := [(1, .int x6), (0, .int p0)]) hx hb dX0_leastOf_18 hl (k := 1) rfl (by rw [ex6]; rfl) (by decide) rfl (fun ls hl => ?_)
          refine lv_goto (tgt := 2) hx hb dX0_leastOf_21 (by decide) ?_
          exact ih x6 C H locs ls hP hS (lv_sub hl [1, 0] rfl) hf
        · have hf := ie_e c5 hf
          refine lv_iload_n hx hb dX0_leastOf_16 rfl (lv_at hl 1 rfl) ?_
          obtain rfl := Option.some.inj hf
          rw [← hQ]
          exact e_iR hx hb hr rfl (tP_i _) hS hlocks dX0_leastOf_17
  refine key2 _ (fun x2 C H locs ls hP hS hl hf => ?_) FU 0 C H locs ls hP hS (lv_sub hl [1, 0] rfl) hf
  refine lv_iconst (v := (-1)) hx hb dX0_leastOf_24 (by decide) ?_
  obtain rfl := Option.some.inj hf
  rw [← hQ]
  exact e_iR hx hb hr rfl (tP_i _) hS hlocks dX0_leastOf_25

def LX0_go_44 (p1 : Int32) (t_down : Nat → Int32) (t_pac : Nat → Int32) (t_wy : Nat → Int32) (t_wn : Nat → Int32) (t_lift : Int32) (w_over : Nat → Int32) (q1 : Int32 × (Nat → Int32) × (Nat → Int32) × (Nat → Int32) × Nat × Nat × Nat) (q2 : Int32 × Int32) (ko : Int32 → Int32 → Int32 → Int32 → Int32 → Int32 → Option (Int32 × (Nat → Int32) × (Nat → Int32) × (Nat → Int32) × Nat × Nat × Nat × Int32 × Int32 × Int32 × Int32 × Int32)) : Nat → Int32 → Int32 → Int32 → Int32 → Int32 → Int32 → Option (Int32 × (Nat → Int32) × (Nat → Int32) × (Nat → Int32) × Nat × Nat × Nat × Int32 × Int32 × Int32 × Int32 × Int32)
  | 0, _, _, _, _, _, _ => none
  | n + 1, x3, x4, x5, x6, x7, x8 =>
    if 12 ≤ x5 then
      ko x3 x4 x5 x6 x7 x8
    else
      (f_J6_bitCount_0f7a4 x3).bind fun q16 =>
      if q16 ≤ 1 then
        ko x3 x4 x5 x6 x7 x8
      else
        (f_X2_nextLid x4 x3 t_down t_pac t_lift w_over q1.2.2.2.1 q1.2.2.2.2.2.2).bind fun q18 =>
        if q18 = (-1) then
          ko x3 x4 x5 x6 x7 x8
        else
          (f_X9_minutesBetween x4 q18 t_down t_pac).bind fun q20 =>
          lt ((x7 + (q20 + t_lift)) : Int32) fun x21 =>
          lt ((x6 + 1) : Int32) fun x22 =>
          (f_X0_drawAnswer q18 p1 t_wy t_wn w_over x8 q2.1).bind fun q23 =>
          (if q23.1 = 0 then
            ri w_over 12 (q18) fun x28 =>
            some ((x28 ^^^ (-1)))
          else
            ri w_over 12 (q18) fun x30 =>
            some (x30) : Option (Int32)).bind fun q24 =>
          lt ((x3 &&& q24) : Int32) fun x25 =>
          lt (x5 + 1 : Int32) fun x26 =>
          LX0_go_44 p1 t_down t_pac t_wy t_wn t_lift w_over q1 q2 ko n x25 q18 x26 x22 x21 q23.2
theorem LX0_go_44_z (p1 : Int32) (t_down : Nat → Int32) (t_pac : Nat → Int32) (t_wy : Nat → Int32) (t_wn : Nat → Int32) (t_lift : Int32) (w_over : Nat → Int32) (q1 : Int32 × (Nat → Int32) × (Nat → Int32) × (Nat → Int32) × Nat × Nat × Nat) (q2 : Int32 × Int32) (ko : Int32 → Int32 → Int32 → Int32 → Int32 → Int32 → Option (Int32 × (Nat → Int32) × (Nat → Int32) × (Nat → Int32) × Nat × Nat × Nat × Int32 × Int32 × Int32 × Int32 × Int32)) (x3 : Int32) (x4 : Int32) (x5 : Int32) (x6 : Int32) (x7 : Int32) (x8 : Int32) : LX0_go_44 p1 t_down t_pac t_wy t_wn t_lift w_over q1 q2 ko 0 x3 x4 x5 x6 x7 x8 = none := rfl
theorem LX0_go_44_s (p1 : Int32) (t_down : Nat → Int32) (t_pac : Nat → Int32) (t_wy : Nat → Int32) (t_wn : Nat → Int32) (t_lift : Int32) (w_over : Nat → Int32) (q1 : Int32 × (Nat → Int32) × (Nat → Int32) × (Nat → Int32) × Nat × Nat × Nat) (q2 : Int32 × Int32) (ko : Int32 → Int32 → Int32 → Int32 → Int32 → Int32 → Option (Int32 × (Nat → Int32) × (Nat → Int32) × (Nat → Int32) × Nat × Nat × Nat × Int32 × Int32 × Int32 × Int32 × Int32)) (n : Nat) (x3 : Int32) (x4 : Int32) (x5 : Int32) (x6 : Int32) (x7 : Int32) (x8 : Int32) : LX0_go_44 p1 t_down t_pac t_wy t_wn t_lift w_over q1 q2 ko (n + 1) x3 x4 x5 x6 x7 x8 =
    if 12 ≤ x5 then
      ko x3 x4 x5 x6 x7 x8
    else
      (f_J6_bitCount_0f7a4 x3).bind fun q16 =>
      if q16 ≤ 1 then
        ko x3 x4 x5 x6 x7 x8
      else
        (f_X2_nextLid x4 x3 t_down t_pac t_lift w_over q1.2.2.2.1 q1.2.2.2.2.2.2).bind fun q18 =>
        if q18 = (-1) then
          ko x3 x4 x5 x6 x7 x8
        else
          (f_X9_minutesBetween x4 q18 t_down t_pac).bind fun q20 =>
          lt ((x7 + (q20 + t_lift)) : Int32) fun x21 =>
          lt ((x6 + 1) : Int32) fun x22 =>
          (f_X0_drawAnswer q18 p1 t_wy t_wn w_over x8 q2.1).bind fun q23 =>
          (if q23.1 = 0 then
            ri w_over 12 (q18) fun x28 =>
            some ((x28 ^^^ (-1)))
          else
            ri w_over 12 (q18) fun x30 =>
            some (x30) : Option (Int32)).bind fun q24 =>
          lt ((x3 &&& q24) : Int32) fun x25 =>
          lt (x5 + 1 : Int32) fun x26 =>
          LX0_go_44 p1 t_down t_pac t_wy t_wn t_lift w_over q1 q2 ko n x25 q18 x26 x22 x21 q23.2 := rfl
def f_X0_go (p0 : Int32) (p1 : Int32) (t_down : Nat → Int32) (t_pac : Nat → Int32) (t_lik : Nat → Int32) (t_wy : Nat → Int32) (t_wn : Nat → Int32) (t_lift : Int32) (w_src : Int32) (w_over : Nat → Int32) (h_solved : Int32) (h_few : Nat → Int32) (h_sum : Nat → Int32) (h_min : Nat → Int32) (hn1 : Nat) (hn2 : Nat) (hn3 : Nat) (d_seed : Int32) (d_min : Int32) (d_gue : Int32) (d_src : Int32) (d_lif : Int32) : Option (Int32 × (Nat → Int32) × (Nat → Int32) × (Nat → Int32) × Nat × Nat × Nat × Int32 × Int32 × Int32 × Int32 × Int32) :=
  (f_X2_solve t_down t_pac t_lik t_lift w_src w_over h_solved h_few h_sum h_min hn1 hn2 hn3).bind fun q1 =>
  (f_X0_drawSource t_lik w_src p0).bind fun q2 =>
  LX0_go_44 p1 t_down t_pac t_wy t_wn t_lift w_over q1 q2 (fun x9 x10 x11 x12 x13 x14 =>
    (f_X0_leastOf x9).bind fun q32 =>
    some (q1.1, q1.2.1, q1.2.2.1, q1.2.2.2.1, q1.2.2.2.2.1, q1.2.2.2.2.2.1, q1.2.2.2.2.2.2, x14, x13, q32, q2.1, x12)) FU w_src 0 0 0 0 q2.2
abbrev rmX0_go : Room := { frames := 5, cells := 3, slots := 57344, locals := 116 }
set_option maxHeartbeats 4000000 in
set_option maxRecDepth 100000 in
theorem c_X0_go {l : Launch} {D : va_G} {g : Nat → ClassId} {N : Nat} {ad : Nat → Nat} {C : Nat → va_E} {sz : Nat} {t_there : Int32} {t_lift : Int32} {t_none : Int32} {t_down : Nat → Int32} {t_pac : Nat → Int32} {t_lik : Nat → Int32} {t_wy : Nat → Int32} {t_wn : Nat → Int32} {w_src : Int32} {w_over : Nat → Int32} {h_solved : Int32} {hn1 : Nat} {h_few : Nat → Int32} {hn2 : Nat} {h_sum : Nat → Int32} {hn3 : Nat} {h_min : Nat → Int32} {d_seed : Int32} {d_min : Int32} {d_gue : Int32} {d_src : Int32} {d_lif : Int32} {p0 : Int32} {p1 : Int32} {rr : Int32 × (Nat → Int32) × (Nat → Int32) × (Nat → Int32) × Nat × Nat × Nat × Int32 × Int32 × Int32 × Int32 × Int32} (hN : 86 ≤ N) (hI : Inj N ad) (h5 : C 5 = .inr (7, [.ref (ad 6), .ref (ad 7), .ref (ad 8), .ref (ad 9), .ref (ad 10), .ref (ad 11), .ref (ad 12), .ref (ad 13), .ref (ad 14), .ref (ad 15), .ref (ad 16), .ref (ad 17), .ref (ad 18), .int t_there, .int t_lift, .int t_none])) (h6 : C 6 = aI g 12 t_down) (h8 : C 8 = aI g 12 t_pac) (h11 : C 11 = aI g 12 t_lik) (h17 : C 17 = aI g 4 t_wy) (h18 : C 18 = aI g 4 t_wn) (h19 : C 19 = .inr (9, [.ref (ad 5), .ref (ad 20), .int w_src])) (h20 : C 20 = aI g 12 w_over) (h77 : C 77 = .inr (2, [.ref (ad 5), .ref (ad 19), .ref (ad 78), .ref (ad 79), .ref (ad 80), .int h_solved])) (h78 : C 78 = aI g hn1 h_few) (h79 : C 79 = aI g hn2 h_sum) (h80 : C 80 = aI g hn3 h_min) (h84 : C 84 = .inr (0, [.ref (ad 5), .ref (ad 19), .ref (ad 77), .int d_seed, .int d_min, .int d_gue, .int d_src, .int d_lif])) (hf : f_X0_go p0 p1 t_down t_pac t_lik t_wy t_wn t_lift w_src w_over h_solved h_few h_sum h_min hn1 hn2 hn3 d_seed d_min d_gue d_src d_lif = some rr) : Met l yX0_go wsX0_go rmX0_go (PcW D g N ad C sz [.ref (ad 84), .int p0, .int p1]) (QvA D N ad sz (fun ad' C' => (∀ i : Nat, i ≠ 78 → i ≠ 79 → i ≠ 80 → ad' i = ad i) ∧ (∀ i : Nat, i ≠ 77 ∧ i ≠ 78 ∧ i ≠ 79 ∧ i ≠ 80 ∧ i ≠ 84 → C' i = C i) ∧ (C' 77 = .inr (2, [.ref (ad' 5), .ref (ad' 19), .ref (ad' 78), .ref (ad' 79), .ref (ad' 80), .int rr.1])) ∧ (C' 78 = aI g rr.2.2.2.2.1 rr.2.1) ∧ (C' 79 = aI g rr.2.2.2.2.2.1 rr.2.2.1) ∧ (C' 80 = aI g rr.2.2.2.2.2.2.1 rr.2.2.2.1) ∧ (C' 84 = .inr (0, [.ref (ad' 5), .ref (ad' 19), .ref (ad' 77), .int rr.2.2.2.2.2.2.2.1, .int rr.2.2.2.2.2.2.2.2.1, .int rr.2.2.2.2.2.2.2.2.2.1, .int rr.2.2.2.2.2.2.2.2.2.2.1, .int rr.2.2.2.2.2.2.2.2.2.2.2])))) 3 57344 (Aw N ad sz) := by
  refine Met.ofW (cc := cX0_go) (maxL := 7) (ret := none) (by decide) rfl ?_
  intro p e s m args below meth c s₁ B hml hv
  obtain ⟨hav, hsz, hK, hP⟩ := hv
  subst hsz
  have hx := B.exec
  have hb := B.bytes
  have hr := B.returns
  have hts := atoms_spec (ws := wsX0_go) B.pre
  have hown : s.vm.findClass RX0 = some m.cls := findClass_of_methodNamed B.named
  have hlocks := B.notSynchronized
  generalize hQ : MQ below (QvA D N ad s.heap.size (fun ad' C' => (∀ i : Nat, i ≠ 78 → i ≠ 79 → i ≠ 80 → ad' i = ad i) ∧ (∀ i : Nat, i ≠ 77 ∧ i ≠ 78 ∧ i ≠ 79 ∧ i ≠ 80 ∧ i ≠ 84 → C' i = C i) ∧ (C' 77 = .inr (2, [.ref (ad' 5), .ref (ad' 19), .ref (ad' 78), .ref (ad' 79), .ref (ad' 80), .int rr.1])) ∧ (C' 78 = aI g rr.2.2.2.2.1 rr.2.1) ∧ (C' 79 = aI g rr.2.2.2.2.2.1 rr.2.2.1) ∧ (C' 80 = aI g rr.2.2.2.2.2.2.1 rr.2.2.2.1) ∧ (C' 84 = .inr (0, [.ref (ad' 5), .ref (ad' 19), .ref (ad' 77), .int rr.2.2.2.2.2.2.2.1, .int rr.2.2.2.2.2.2.2.2.1, .int rr.2.2.2.2.2.2.2.2.2.1, .int rr.2.2.2.2.2.2.2.2.2.2.1, .int rr.2.2.2.2.2.2.2.2.2.2.2])))) args s 3 57344 (Aw N ad s.heap.size) = QQ
  obtain ⟨ad0, had0⟩ : ∃ z : Nat → Nat, z = ad := ⟨_, rfl⟩
  rw [← had0] at hQ
  have hadT : ∀ i : Nat, i ≠ 78 → i ≠ 79 → i ≠ 80 → ad i = ad0 i := fun i _ _ _ => by rw [had0]
  have hS : va_S (Aw N ad0 s.heap.size) s.heap s.heap [] := va_S.rf
  have hA : ∀ q, s.heap.size ≤ q → (Aw N ad0 s.heap.size) q := fun q h => Or.inr h
  have hAd : ∀ j : Nat, j < N → (Aw N ad0 s.heap.size) (ad j) := fun j h => Or.inl ⟨j, h, by rw [had0]⟩
  obtain ⟨C0, hC0⟩ : ∃ C0 : Nat → va_E, C0 = C := ⟨_, rfl⟩
  have hag : ∀ i : Nat, i ≠ 77 ∧ i ≠ 78 ∧ i ≠ 79 ∧ i ≠ 80 ∧ i ≠ 84 → C i = C0 i := fun i _ => by rw [hC0]
  rw [← hC0] at hQ
  have k0 := hts (.fieldLink RX0 19 "UpDrain$DayWalk" "hunt" "LUpDrain$Hunt;") (List.mem_of_getElem? (i := 1) rfl)
  have nX0 : ∀ w ∈ u_ws RX0 TX0 8, w ∈ wsX0_go := fun _ h => List.mem_cons_of_mem _ (List.mem_append_left _ (List.mem_append_left _ (List.mem_append_left _ (List.mem_append_right _ h))))
  have k2 := hts (.fieldLink RX0 28 "UpDrain$DayWalk" "seed" "I") (List.mem_of_getElem? (i := 2) rfl)
  have k3 := hts (.fieldLink RX0 32 "UpDrain$DayWalk" "minutes" "I") (List.mem_of_getElem? (i := 3) rfl)
  have k4 := hts (.fieldLink RX0 35 "UpDrain$DayWalk" "lifted" "I") (List.mem_of_getElem? (i := 4) rfl)
  have k5 := hts (.fieldLink RX0 42 "UpDrain$DayWalk" "source" "I") (List.mem_of_getElem? (i := 5) rfl)
  have k6 := hts (.fieldLink RX0 15 "UpDrain$DayWalk" "ways" "LUpDrain$Ways;") (List.mem_of_getElem? (i := 6) rfl)
  have k7 := nf_51 (A := args) hK
  have nX9 : ∀ w ∈ u_ws RX9 TX9 3, w ∈ wsX0_go := fun _ h => List.mem_cons_of_mem _ (List.mem_append_left _ (List.mem_append_left _ (List.mem_append_right _ h)))
  have k9 := hts (.fieldLink RX0 9 "UpDrain$DayWalk" "plan" "LUpDrain$Town;") (List.mem_of_getElem? (i := 7) rfl)
  have k10 := nf_41 (A := args) hK
  have nX7 : ∀ w ∈ u_ws RX7 TX7 16, w ∈ wsX0_go := fun _ h => List.mem_cons_of_mem _ (List.mem_append_left _ (List.mem_append_right _ h))
  have k12 := nf_47 (A := args) hK
  have k13 := hts (.fieldLink RX0 79 "UpDrain$DayWalk" "guessed" "I") (List.mem_of_getElem? (i := 8) rfl)
  have hE := lg_entry_eq m [.ref (ad 84), .int p0, .int p1] 7
  rw [← hav] at hE
  rw [hE]
  have hl := lv_entry [.ref (ad 84), .int p0, .int p1] (n := 7) (Nat.le_of_ble_eq_true rfl)
  generalize (lg_sl [.ref (ad 84), .int p0, .int p1] ++ List.replicate (7 - (lg_sl [.ref (ad 84), .int p0, .int p1]).length) Slot.unset).toArray = ls at hl ⊢
  have hl : lv_has ls 7 [(0, .ref (ad 84)), (1, .int p0), (2, .int p1)] := hl
  clear hE
  unfold f_X0_go at hf
  suffices hgo : ∀ (H : Heap) (locs : List Loc), va_P D vwCl (wd N ad C) H → va_S (Aw N ad0 s.heap.size) s.heap H locs → W p l e (headSpec wsX0_go rmX0_go).room s m args below meth c H locs 0 0 QQ (F0 m 0 ls []) from hgo s.heap [] hP hS
  clear hS hP
  intro H locs hP hS
  refine lv_aload_n hx hb dX0_go_0 rfl (lv_at hl 0 rfl) ?_
  refine r_get (own := RX0) (T := TX0) (n := 8) (ci := 0) (v := .ref (ad 77)) hx hb hts nX0 hown hK hP (by omega) h84 rfl 2 (by decide) k0 rfl dX0_go_1 ?_
  obtain ⟨q1, hq1, hf⟩ := bd_e hf
  refine k_vA (va_runV (C := RX2) (As := []) (rest := []) ⟨hx, hb, hml, hown, hts⟩ (c_X2_solve (l := l) (sz := H.size)  hN hI h5 h6 h8 h11 h19 h20 h77 h78 h79 h80 hq1) (cwV 0 hts gX0_go_X2_solve rfl rfl rfl (by decide +kernel) ⟨Nat.le_of_ble_eq_true rfl, Nat.le_of_ble_eq_true rfl⟩) (preV_of hK hP (by omega) h77 rfl) rfl rfl hl.1 rfl (lv_room (Nat.le_of_ble_eq_true rfl)) dX0_go_4 ⟨Nat.le_of_ble_eq_true rfl, Nat.le_of_ble_eq_true rfl⟩) hA hAd hS (fun ad C H locs hI hAd hP hS hpo => ?_)
  refine W.widen (k := 3) (n := 57344) (Nat.le_refl _) (Nat.le_refl _) ?_
  obtain ⟨had, he, h77, h78, h79, h80⟩ := hpo
  have hadT : ∀ i : Nat, i ≠ 78 → i ≠ 79 → i ≠ 80 → ad i = ad0 i := fun i h1 h2 h3 => (had i h1 h2 h3).trans (hadT i h1 h2 h3)
  have hag : ∀ i : Nat, i ≠ 77 ∧ i ≠ 78 ∧ i ≠ 79 ∧ i ≠ 80 ∧ i ≠ 84 → C i = C0 i := fun i h => (he i (by omega)).trans (hag i h)
  have h5 : C 5 = .inr (7, [.ref (ad 6), .ref (ad 7), .ref (ad 8), .ref (ad 9), .ref (ad 10), .ref (ad 11), .ref (ad 12), .ref (ad 13), .ref (ad 14), .ref (ad 15), .ref (ad 16), .ref (ad 17), .ref (ad 18), .int t_there, .int t_lift, .int t_none]) := by rw [had 6 (by decide) (by decide) (by decide), had 7 (by decide) (by decide) (by decide), had 8 (by decide) (by decide) (by decide), had 9 (by decide) (by decide) (by decide), had 10 (by decide) (by decide) (by decide), had 11 (by decide) (by decide) (by decide), had 12 (by decide) (by decide) (by decide), had 13 (by decide) (by decide) (by decide), had 14 (by decide) (by decide) (by decide), had 15 (by decide) (by decide) (by decide), had 16 (by decide) (by decide) (by decide), had 17 (by decide) (by decide) (by decide), had 18 (by decide) (by decide) (by decide)]; exact (he 5 (by decide)).trans h5
  have h6 := (he 6 (by decide)).trans h6
  have h8 := (he 8 (by decide)).trans h8
  have h11 := (he 11 (by decide)).trans h11
  have h17 := (he 17 (by decide)).trans h17
  have h18 := (he 18 (by decide)).trans h18
  have h19 : C 19 = .inr (9, [.ref (ad 5), .ref (ad 20), .int w_src]) := by rw [had 5 (by decide) (by decide) (by decide), had 20 (by decide) (by decide) (by decide)]; exact (he 19 (by decide)).trans h19
  have h20 := (he 20 (by decide)).trans h20
  have h84 : C 84 = .inr (0, [.ref (ad 5), .ref (ad 19), .ref (ad 77), .int d_seed, .int d_min, .int d_gue, .int d_src, .int d_lif]) := by rw [had 5 (by decide) (by decide) (by decide), had 19 (by decide) (by decide) (by decide), had 77 (by decide) (by decide) (by decide)]; exact (he 84 (by decide)).trans h84
  have hl : lv_has ls 7 [(0, .ref (ad 84)), (1, .int p0), (2, .int p1)] := by rw [had 84 (by decide) (by decide) (by decide)]; exact hl
  refine lv_aload_n hx hb dX0_go_7 rfl (lv_at hl 0 rfl) ?_
  refine lv_iload_n hx hb dX0_go_8 rfl (lv_at hl 1 rfl) ?_
  refine r_put (own := RX0) (T := TX0) (n := 8) (ci := 0) (v := .int p0) hx hb hts nX0 tyX0 tyX0_ok nmX0 hown hK hI hAd hP hS (by omega) h84 rfl 3 (by decide) k2 rfl rfl rfl (Nat.le_of_ble_eq_true rfl) dX0_go_9 (fun C H locs hP hS he hn => ?_)
  have hag : ∀ i : Nat, i ≠ 77 ∧ i ≠ 78 ∧ i ≠ 79 ∧ i ≠ 80 ∧ i ≠ 84 → C i = C0 i := fun i h => (he i (by omega)).trans (hag i h)
  have h5 := (he 5 (by decide)).trans h5
  have h6 := (he 6 (by decide)).trans h6
  have h8 := (he 8 (by decide)).trans h8
  have h11 := (he 11 (by decide)).trans h11
  have h17 := (he 17 (by decide)).trans h17
  have h18 := (he 18 (by decide)).trans h18
  have h19 := (he 19 (by decide)).trans h19
  have h20 := (he 20 (by decide)).trans h20
  have h77 := (he 77 (by decide)).trans h77
  have h78 := (he 78 (by decide)).trans h78
  have h79 := (he 79 (by decide)).trans h79
  have h80 := (he 80 (by decide)).trans h80
  have h84 : C 84 = .inr (0, [.ref (ad 5), .ref (ad 19), .ref (ad 77), .int p0, .int d_min, .int d_gue, .int d_src, .int d_lif]) := hn
  refine lv_aload_n hx hb dX0_go_12 rfl (lv_at hl 0 rfl) ?_
  refine lv_iconst (v := 0) hx hb dX0_go_13 (by decide) ?_
  refine r_put (own := RX0) (T := TX0) (n := 8) (ci := 0) (v := .int 0) hx hb hts nX0 tyX0 tyX0_ok nmX0 hown hK hI hAd hP hS (by omega) h84 rfl 4 (by decide) k3 rfl rfl rfl (Nat.le_of_ble_eq_true rfl) dX0_go_14 (fun C H locs hP hS he hn => ?_)
  have hag : ∀ i : Nat, i ≠ 77 ∧ i ≠ 78 ∧ i ≠ 79 ∧ i ≠ 80 ∧ i ≠ 84 → C i = C0 i := fun i h => (he i (by omega)).trans (hag i h)
  have h5 := (he 5 (by decide)).trans h5
  have h6 := (he 6 (by decide)).trans h6
  have h8 := (he 8 (by decide)).trans h8
  have h11 := (he 11 (by decide)).trans h11
  have h17 := (he 17 (by decide)).trans h17
  have h18 := (he 18 (by decide)).trans h18
  have h19 := (he 19 (by decide)).trans h19
  have h20 := (he 20 (by decide)).trans h20
  have h77 := (he 77 (by decide)).trans h77
  have h78 := (he 78 (by decide)).trans h78
  have h79 := (he 79 (by decide)).trans h79
  have h80 := (he 80 (by decide)).trans h80
  have h84 : C 84 = .inr (0, [.ref (ad 5), .ref (ad 19), .ref (ad 77), .int p0, .int 0, .int d_gue, .int d_src, .int d_lif]) := hn
  refine lv_aload_n hx hb dX0_go_17 rfl (lv_at hl 0 rfl) ?_
  refine lv_iconst (v := 0) hx hb dX0_go_18 (by decide) ?_
  refine r_put (own := RX0) (T := TX0) (n := 8) (ci := 0) (v := .int 0) hx hb hts nX0 tyX0 tyX0_ok nmX0 hown hK hI hAd hP hS (by omega) h84 rfl 7 (by decide) k4 rfl rfl rfl (Nat.le_of_ble_eq_true rfl) dX0_go_19 (fun C H locs hP hS he hn => ?_)
  have hag : ∀ i : Nat, i ≠ 77 ∧ i ≠ 78 ∧ i ≠ 79 ∧ i ≠ 80 ∧ i ≠ 84 → C i = C0 i := fun i h => (he i (by omega)).trans (hag i h)
  have h5 := (he 5 (by decide)).trans h5
  have h6 := (he 6 (by decide)).trans h6
  have h8 := (he 8 (by decide)).trans h8
  have h11 := (he 11 (by decide)).trans h11
  have h17 := (he 17 (by decide)).trans h17
  have h18 := (he 18 (by decide)).trans h18
  have h19 := (he 19 (by decide)).trans h19
  have h20 := (he 20 (by decide)).trans h20
  have h77 := (he 77 (by decide)).trans h77
  have h78 := (he 78 (by decide)).trans h78
  have h79 := (he 79 (by decide)).trans h79
  have h80 := (he 80 (by decide)).trans h80
  have h84 : C 84 = .inr (0, [.ref (ad 5), .ref (ad 19), .ref (ad 77), .int p0, .int 0, .int d_gue, .int d_src, .int 0]) := hn
  refine lv_aload_n hx hb dX0_go_22 rfl (lv_at hl 0 rfl) ?_
  refine lv_aload_n hx hb dX0_go_23 rfl (lv_at hl 0 rfl) ?_
  obtain ⟨q2, hq2, hf⟩ := bd_e hf
  refine k_iW (va_runV (C := RX0) (As := []) (rest := [.ref (ad 84)]) ⟨hx, hb, hml, hown, hts⟩ (c_X0_drawSource (l := l) (sz := H.size)  hN hI h5 h11 h19 h84 hq2) (cwV 0 hts gX0_go_X0_drawSource rfl rfl rfl (by decide +kernel) ⟨Nat.le_of_ble_eq_true rfl, Nat.le_of_ble_eq_true rfl⟩) (preV_of hK hP (by omega) h84 rfl) rfl rfl hl.1 rfl (lv_room (Nat.le_of_ble_eq_true rfl)) dX0_go_24 ⟨Nat.le_of_ble_eq_true rfl, Nat.le_of_ble_eq_true rfl⟩) hA hAd hS (fun C H locs hP hS hpo hbz_q2 => ?_)
  obtain ⟨he, h84⟩ := hpo
  have hag : ∀ i : Nat, i ≠ 77 ∧ i ≠ 78 ∧ i ≠ 79 ∧ i ≠ 80 ∧ i ≠ 84 → C i = C0 i := fun i h => (he i (by omega)).trans (hag i h)
  have h5 := (he 5 (by decide)).trans h5
  have h6 := (he 6 (by decide)).trans h6
  have h8 := (he 8 (by decide)).trans h8
  have h11 := (he 11 (by decide)).trans h11
  have h17 := (he 17 (by decide)).trans h17
  have h18 := (he 18 (by decide)).trans h18
  have h19 := (he 19 (by decide)).trans h19
  have h20 := (he 20 (by decide)).trans h20
  have h77 := (he 77 (by decide)).trans h77
  have h78 := (he 78 (by decide)).trans h78
  have h79 := (he 79 (by decide)).trans h79
  have h80 := (he 80 (by decide)).trans h80
  refine r_put (own := RX0) (T := TX0) (n := 8) (ci := 0) (v := .int q2.1) hx hb hts nX0 tyX0 tyX0_ok nmX0 hown hK hI hAd hP hS (by omega) h84 rfl 6 (by decide) k5 rfl rfl rfl (Nat.le_of_ble_eq_true rfl) dX0_go_27 (fun C H locs hP hS he hn => ?_)
  have hag : ∀ i : Nat, i ≠ 77 ∧ i ≠ 78 ∧ i ≠ 79 ∧ i ≠ 80 ∧ i ≠ 84 → C i = C0 i := fun i h => (he i (by omega)).trans (hag i h)
  have h5 := (he 5 (by decide)).trans h5
  have h6 := (he 6 (by decide)).trans h6
  have h8 := (he 8 (by decide)).trans h8
  have h11 := (he 11 (by decide)).trans h11
  have h17 := (he 17 (by decide)).trans h17
  have h18 := (he 18 (by decide)).trans h18
  have h19 := (he 19 (by decide)).trans h19
  have h20 := (he 20 (by decide)).trans h20
  have h77 := (he 77 (by decide)).trans h77
  have h78 := (he 78 (by decide)).trans h78
  have h79 := (he 79 (by decide)).trans h79
  have h80 := (he 80 (by decide)).trans h80
  have h84 : C 84 = .inr (0, [.ref (ad 5), .ref (ad 19), .ref (ad 77), .int q2.2, .int 0, .int d_gue, .int q2.1, .int 0]) := hn
  refine lv_aload_n hx hb dX0_go_30 rfl (lv_at hl 0 rfl) ?_
  refine r_get (own := RX0) (T := TX0) (n := 8) (ci := 0) (v := .ref (ad 19)) hx hb hts nX0 hown hK hP (by omega) h84 rfl 1 (by decide) k6 rfl dX0_go_31 ?_
  refine r_getN (own := RX0) (T := TX9) (n := 3) (ci := 9) (v := .int w_src) hx hb hts nX9 hown hK hP (by omega) h19 rfl 2 (by decide) k7 rfl dX0_go_34 ?_
  refine lv_istore_n (lv' := [(3, .int w_src), (0, .ref (ad 84)), (1, .int p0), (2, .int p1)]) hx hb dX0_go_37 rfl hl (by decide) rfl (fun ls hl => ?_)
  refine lv_iconst (v := 0) hx hb dX0_go_38 (by decide) ?_
  refine lv_istore (lv' := [(4, .int 0), (3, .int w_src), (0, .ref (ad 84)), (1, .int p0), (2, .int p1)]) hx hb dX0_go_39 hl (by decide) rfl (fun ls hl => ?_)
  refine lv_iconst (v := 0) hx hb dX0_go_41 (by decide) ?_
  refine lv_istore (lv' := [(5, .int 0), (4, .int 0), (3, .int w_src), (0, .ref (ad 84)), (1, .int p0), (2, .int p1)]) hx hb dX0_go_42 hl (by decide) rfl (fun ls hl => ?_)
  have key44 : ∀ (ko : Int32 → Int32 → Int32 → Int32 → Int32 → Int32 → Option (Int32 × (Nat → Int32) × (Nat → Int32) × (Nat → Int32) × Nat × Nat × Nat × Int32 × Int32 × Int32 × Int32 × Int32)), (∀ (x9 : Int32) (x10 : Int32) (x11 : Int32) (x12 : Int32) (x13 : Int32) (x14 : Int32) (C : Nat → va_E) (H : Heap) (locs : List Loc) (ls : Array Slot), va_P D vwCl (wd N ad C) H → va_S (Aw N ad0 s.heap.size) s.heap H locs → (∀ i : Nat, i ≠ 77 ∧ i ≠ 78 ∧ i ≠ 79 ∧ i ≠ 80 ∧ i ≠ 84 → C i = C0 i) → C 5 = .inr (7, [.ref (ad 6), .ref (ad 7), .ref (ad 8), .ref (ad 9), .ref (ad 10), .ref (ad 11), .ref (ad 12), .ref (ad 13), .ref (ad 14), .ref (ad 15), .ref (ad 16), .ref (ad 17), .ref (ad 18), .int t_there, .int t_lift, .int t_none]) → C 6 = aI g 12 t_down → C 8 = aI g 12 t_pac → C 11 = aI g 12 t_lik → C 17 = aI g 4 t_wy → C 18 = aI g 4 t_wn → C 19 = .inr (9, [.ref (ad 5), .ref (ad 20), .int w_src]) → C 20 = aI g 12 w_over → C 77 = .inr (2, [.ref (ad 5), .ref (ad 19), .ref (ad 78), .ref (ad 79), .ref (ad 80), .int q1.1]) → C 78 = aI g q1.2.2.2.2.1 q1.2.1 → C 79 = aI g q1.2.2.2.2.2.1 q1.2.2.1 → C 80 = aI g q1.2.2.2.2.2.2 q1.2.2.2.1 → C 84 = .inr (0, [.ref (ad 5), .ref (ad 19), .ref (ad 77), .int x14, .int x13, .int d_gue, .int q2.1, .int x12]) → lv_has ls 7 [(0, .ref (ad 84)), (1, .int p0), (2, .int p1), (3, .int x9), (4, .int x10), (5, .int x11)] → ko x9 x10 x11 x12 x13 x14 = some rr → W p l e (headSpec wsX0_go rmX0_go).room s m args below meth c H locs 3 57344 QQ (F0 m 166 ls [])) → ∀ (n : Nat) (x3 : Int32) (x4 : Int32) (x5 : Int32) (x6 : Int32) (x7 : Int32) (x8 : Int32) (C : Nat → va_E) (H : Heap) (locs : List Loc) (ls : Array Slot), va_P D vwCl (wd N ad C) H → va_S (Aw N ad0 s.heap.size) s.heap H locs → (∀ i : Nat, i ≠ 77 ∧ i ≠ 78 ∧ i ≠ 79 ∧ i ≠ 80 ∧ i ≠ 84 → C i = C0 i) → C 5 = .inr (7, [.ref (ad 6), .ref (ad 7), .ref (ad 8), .ref (ad 9), .ref (ad 10), .ref (ad 11), .ref (ad 12), .ref (ad 13), .ref (ad 14), .ref (ad 15), .ref (ad 16), .ref (ad 17), .ref (ad 18), .int t_there, .int t_lift, .int t_none]) → C 6 = aI g 12 t_down → C 8 = aI g 12 t_pac → C 11 = aI g 12 t_lik → C 17 = aI g 4 t_wy → C 18 = aI g 4 t_wn → C 19 = .inr (9, [.ref (ad 5), .ref (ad 20), .int w_src]) → C 20 = aI g 12 w_over → C 77 = .inr (2, [.ref (ad 5), .ref (ad 19), .ref (ad 78), .ref (ad 79), .ref (ad 80), .int q1.1]) → C 78 = aI g q1.2.2.2.2.1 q1.2.1 → C 79 = aI g q1.2.2.2.2.2.1 q1.2.2.1 → C 80 = aI g q1.2.2.2.2.2.2 q1.2.2.2.1 → C 84 = .inr (0, [.ref (ad 5), .ref (ad 19), .ref (ad 77), .int x8, .int x7, .int d_gue, .int q2.1, .int x6]) → lv_has ls 7 [(0, .ref (ad 84)), (1, .int p0), (2, .int p1), (3, .int x3), (4, .int x4), (5, .int x5)] → LX0_go_44 p1 t_down t_pac t_wy t_wn t_lift w_over q1 q2 ko n x3 x4 x5 x6 x7 x8 = some rr → W p l e (headSpec wsX0_go rmX0_go).room s m args below meth c H locs 3 57344 QQ (F0 m 44 ls []) := by
    intro ko hko n
    induction n with
    | zero =>
      intro x3 x4 x5 x6 x7 x8 C H locs ls hP hS hag h5 h6 h8 h11 h17 h18 h19 h20 h77 h78 h79 h80 h84 hl hf
      rw [LX0_go_44_z] at hf
      cases hf
    | succ n ih =>
      intro x3 x4 x5 x6 x7 x8 C H locs ls hP hS hag h5 h6 h8 h11 h17 h18 h19 h20 h77 h78 h79 h80 h84 hl hf
      rw [LX0_go_44_s] at hf
      refine lv_iload hx hb dX0_go_44 (lv_at hl 5 rfl) ?_
      refine lv_bipush (v := 12) hx hb dX0_go_46 (by decide) ?_
      refine lv_icmp_ge (tgt := 166) hx hb dX0_go_48 (by decide) (fun c15 => ?_) (fun c15 => ?_)
      · have hf := it_e c15 hf
        exact hko x3 x4 x5 x6 x7 x8 C H locs ls hP hS hag h5 h6 h8 h11 h17 h18 h19 h20 h77 h78 h79 h80 h84 (lv_sub hl [0, 1, 2, 3, 4, 5] rfl) hf
      · have hf := ie_e c15 hf
        refine lv_iload_n hx hb dX0_go_51 rfl (lv_at hl 3 rfl) ?_
        obtain ⟨q16, hq16, hf⟩ := bd_e hf
        refine k_iR (va_runS (As := [.int x3]) (rest := []) ⟨hx, hb, hml, hown, hts⟩ (c_J6_bitCount_0f7a4 (l := l) (sz := H.size) (p0 := x3) hq16) (va_cwS 1 hts gX0_go_J6_bitCount_0f7a4 rfl rfl rfl (by decide +kernel) ⟨Nat.le_of_ble_eq_true rfl, Nat.le_of_ble_eq_true rfl⟩) preS0 rfl rfl hl.1 rfl (lv_room (Nat.le_of_ble_eq_true rfl)) dX0_go_52 ⟨Nat.le_of_ble_eq_true rfl, Nat.le_of_ble_eq_true rfl⟩) hA hP hS (fun H locs hP hS hbz_q16 => ?_)
        refine lv_iconst (v := 1) hx hb dX0_go_55 (by decide) ?_
        refine lv_icmp_le (tgt := 166) hx hb dX0_go_56 (by decide) (fun c17 => ?_) (fun c17 => ?_)
        · have hf := it_e c17 hf
          exact hko x3 x4 x5 x6 x7 x8 C H locs ls hP hS hag h5 h6 h8 h11 h17 h18 h19 h20 h77 h78 h79 h80 h84 (lv_sub hl [0, 1, 2, 3, 4, 5] rfl) hf
        · have hf := ie_e c17 hf
          refine lv_aload_n hx hb dX0_go_59 rfl (lv_at hl 0 rfl) ?_
          refine r_get (own := RX0) (T := TX0) (n := 8) (ci := 0) (v := .ref (ad 77)) hx hb hts nX0 hown hK hP (by omega) h84 rfl 2 (by decide) k0 rfl dX0_go_60 ?_
          refine lv_iload hx hb dX0_go_63 (lv_at hl 4 rfl) ?_
          refine lv_iload_n hx hb dX0_go_65 rfl (lv_at hl 3 rfl) ?_
          obtain ⟨q18, hq18, hf⟩ := bd_e hf
          refine k_iR (va_runV (C := RX2) (As := [.int x4, .int x3]) (rest := []) ⟨hx, hb, hml, hown, hts⟩ (c_X2_nextLid (l := l) (sz := H.size) (p0 := x4) (p1 := x3) hN h5 h6 h8 h19 h20 h77 h80 hq18) (cwV 2 hts gX0_go_X2_nextLid rfl rfl rfl (by decide +kernel) ⟨Nat.le_of_ble_eq_true rfl, Nat.le_of_ble_eq_true rfl⟩) (preV_of hK hP (by omega) h77 rfl) rfl rfl hl.1 rfl (lv_room (Nat.le_of_ble_eq_true rfl)) dX0_go_66 ⟨Nat.le_of_ble_eq_true rfl, Nat.le_of_ble_eq_true rfl⟩) hA hP hS (fun H locs hP hS hbz_q18 => ?_)
          refine lv_istore (lv' := [(6, .int q18), (0, .ref (ad 84)), (1, .int p0), (2, .int p1), (3, .int x3), (4, .int x4), (5, .int x5)]) hx hb dX0_go_69 hl (by decide) rfl (fun ls hl => ?_)
          refine lv_iload hx hb dX0_go_71 (lv_at hl 0 rfl) ?_
          refine lv_iconst (v := (-1)) hx hb dX0_go_73 (by decide) ?_
          refine lv_icmp_ne (tgt := 80) hx hb dX0_go_74 (by decide) (fun c19 => ?_) (fun c19 => ?_)
          · have hf := ie_e c19 hf
            refine lv_aload_n hx hb dX0_go_80 rfl (lv_at hl 1 rfl) ?_
            refine lv_dup hx hb dX0_go_81 rfl ?_
            refine r_get (own := RX0) (T := TX0) (n := 8) (ci := 0) (v := .int x7) hx hb hts nX0 hown hK hP (by omega) h84 rfl 4 (by decide) k3 rfl dX0_go_82 ?_
            refine lv_aload_n hx hb dX0_go_85 rfl (lv_at hl 1 rfl) ?_
            refine r_get (own := RX0) (T := TX0) (n := 8) (ci := 0) (v := .ref (ad 19)) hx hb hts nX0 hown hK hP (by omega) h84 rfl 1 (by decide) k6 rfl dX0_go_86 ?_
            refine lv_iload hx hb dX0_go_89 (lv_at hl 5 rfl) ?_
            refine lv_iload hx hb dX0_go_91 (lv_at hl 0 rfl) ?_
            obtain ⟨q20, hq20, hf⟩ := bd_e hf
            refine k_iR (va_runV (C := RX9) (As := [.int x4, .int q18]) (rest := [.int x7, .ref (ad 84)]) ⟨hx, hb, hml, hown, hts⟩ (c_X9_minutesBetween (l := l) (sz := H.size) (p0 := x4) (p1 := q18) hN h5 h6 h8 h19 hq20) (cwV 2 hts gX0_go_X9_minutesBetween rfl rfl rfl (by decide +kernel) ⟨Nat.le_of_ble_eq_true rfl, Nat.le_of_ble_eq_true rfl⟩) (preV_of hK hP (by omega) h19 rfl) rfl rfl hl.1 rfl (lv_room (Nat.le_of_ble_eq_true rfl)) dX0_go_93 ⟨Nat.le_of_ble_eq_true rfl, Nat.le_of_ble_eq_true rfl⟩) hA hP hS (fun H locs hP hS hbz_q20 => ?_)
            refine lv_aload_n hx hb dX0_go_96 rfl (lv_at hl 1 rfl) ?_
            refine r_get (own := RX0) (T := TX0) (n := 8) (ci := 0) (v := .ref (ad 5)) hx hb hts nX0 hown hK hP (by omega) h84 rfl 0 (by decide) k9 rfl dX0_go_97 ?_
            refine r_getN (own := RX0) (T := TX7) (n := 16) (ci := 7) (v := .int t_lift) hx hb hts nX7 hown hK hP (by omega) h5 rfl 14 (by decide) k10 rfl dX0_go_100 ?_
            refine lv_iadd hx hb dX0_go_103 ?_
            refine lv_iadd hx hb dX0_go_104 ?_
            obtain ⟨x21, ex21, hf⟩ := lt_e hf
            refine tp_i ex21 ?_
            refine r_put (own := RX0) (T := TX0) (n := 8) (ci := 0) (v := .int x21) hx hb hts nX0 tyX0 tyX0_ok nmX0 hown hK hI hAd hP hS (by omega) h84 rfl 4 (by decide) k3 rfl rfl rfl (Nat.le_of_ble_eq_true rfl) dX0_go_105 (fun C H locs hP hS he hn => ?_)
            have hag : ∀ i : Nat, i ≠ 77 ∧ i ≠ 78 ∧ i ≠ 79 ∧ i ≠ 80 ∧ i ≠ 84 → C i = C0 i := fun i h => (he i (by omega)).trans (hag i h)
            have h5 := (he 5 (by decide)).trans h5
            have h6 := (he 6 (by decide)).trans h6
            have h8 := (he 8 (by decide)).trans h8
            have h11 := (he 11 (by decide)).trans h11
            have h17 := (he 17 (by decide)).trans h17
            have h18 := (he 18 (by decide)).trans h18
            have h19 := (he 19 (by decide)).trans h19
            have h20 := (he 20 (by decide)).trans h20
            have h77 := (he 77 (by decide)).trans h77
            have h78 := (he 78 (by decide)).trans h78
            have h79 := (he 79 (by decide)).trans h79
            have h80 := (he 80 (by decide)).trans h80
            have h84 : C 84 = .inr (0, [.ref (ad 5), .ref (ad 19), .ref (ad 77), .int x8, .int x21, .int d_gue, .int q2.1, .int x6]) := hn
            refine lv_aload_n hx hb dX0_go_108 rfl (lv_at hl 1 rfl) ?_
            refine lv_dup hx hb dX0_go_109 rfl ?_
            refine r_get (own := RX0) (T := TX0) (n := 8) (ci := 0) (v := .int x6) hx hb hts nX0 hown hK hP (by omega) h84 rfl 7 (by decide) k4 rfl dX0_go_110 ?_
            refine lv_iconst (v := 1) hx hb dX0_go_113 (by decide) ?_
            refine lv_iadd hx hb dX0_go_114 ?_
            obtain ⟨x22, ex22, hf⟩ := lt_e hf
            refine tp_i ex22 ?_
            refine r_put (own := RX0) (T := TX0) (n := 8) (ci := 0) (v := .int x22) hx hb hts nX0 tyX0 tyX0_ok nmX0 hown hK hI hAd hP hS (by omega) h84 rfl 7 (by decide) k4 rfl rfl rfl (Nat.le_of_ble_eq_true rfl) dX0_go_115 (fun C H locs hP hS he hn => ?_)
            have hag : ∀ i : Nat, i ≠ 77 ∧ i ≠ 78 ∧ i ≠ 79 ∧ i ≠ 80 ∧ i ≠ 84 → C i = C0 i := fun i h => (he i (by omega)).trans (hag i h)
            have h5 := (he 5 (by decide)).trans h5
            have h6 := (he 6 (by decide)).trans h6
            have h8 := (he 8 (by decide)).trans h8
            have h11 := (he 11 (by decide)).trans h11
            have h17 := (he 17 (by decide)).trans h17
            have h18 := (he 18 (by decide)).trans h18
            have h19 := (he 19 (by decide)).trans h19
            have h20 := (he 20 (by decide)).trans h20
            have h77 := (he 77 (by decide)).trans h77
            have h78 := (he 78 (by decide)).trans h78
            have h79 := (he 79 (by decide)).trans h79
            have h80 := (he 80 (by decide)).trans h80
            have h84 : C 84 = .inr (0, [.ref (ad 5), .ref (ad 19), .ref (ad 77), .int x8, .int x21, .int d_gue, .int q2.1, .int x22]) := hn
            refine lv_iload hx hb dX0_go_118 (lv_at hl 0 rfl) ?_
            refine lv_istore (lv' := [(4, .int q18), (6, .int q18), (0, .ref (ad 84)), (1, .int p0), (2, .int p1), (3, .int x3), (5, .int x5)]) hx hb dX0_go_120 hl (by decide) rfl (fun ls hl => ?_)
            refine lv_iload_n hx hb dX0_go_122 rfl (lv_at hl 5 rfl) ?_
            refine lv_aload_n hx hb dX0_go_123 rfl (lv_at hl 2 rfl) ?_
            refine lv_iload hx hb dX0_go_124 (lv_at hl 1 rfl) ?_
            refine lv_iload_n hx hb dX0_go_126 rfl (lv_at hl 4 rfl) ?_
            obtain ⟨q23, hq23, hf⟩ := bd_e hf
            refine k_iW (va_runV (C := RX0) (As := [.int q18, .int p1]) (rest := [.int x3]) ⟨hx, hb, hml, hown, hts⟩ (c_X0_drawAnswer (l := l) (sz := H.size) (p0 := q18) (p1 := p1) hN hI h5 h17 h18 h19 h20 h84 hq23) (cwV 2 hts gX0_go_X0_drawAnswer rfl rfl rfl (by decide +kernel) ⟨Nat.le_of_ble_eq_true rfl, Nat.le_of_ble_eq_true rfl⟩) (preV_of hK hP (by omega) h84 rfl) rfl rfl hl.1 rfl (lv_room (Nat.le_of_ble_eq_true rfl)) dX0_go_127 ⟨Nat.le_of_ble_eq_true rfl, Nat.le_of_ble_eq_true rfl⟩) hA hAd hS (fun C H locs hP hS hpo hbz_q23 => ?_)
            obtain ⟨he, h84⟩ := hpo
            have hag : ∀ i : Nat, i ≠ 77 ∧ i ≠ 78 ∧ i ≠ 79 ∧ i ≠ 80 ∧ i ≠ 84 → C i = C0 i := fun i h => (he i (by omega)).trans (hag i h)
            have h5 := (he 5 (by decide)).trans h5
            have h6 := (he 6 (by decide)).trans h6
            have h8 := (he 8 (by decide)).trans h8
            have h11 := (he 11 (by decide)).trans h11
            have h17 := (he 17 (by decide)).trans h17
            have h18 := (he 18 (by decide)).trans h18
            have h19 := (he 19 (by decide)).trans h19
            have h20 := (he 20 (by decide)).trans h20
            have h77 := (he 77 (by decide)).trans h77
            have h78 := (he 78 (by decide)).trans h78
            have h79 := (he 79 (by decide)).trans h79
            have h80 := (he 80 (by decide)).trans h80
            obtain ⟨q24, htq24, hf⟩ := bd_e hf
            have jnq24 : ∀ (C : Nat → va_E) (H : Heap) (locs : List Loc) (ls : Array Slot), va_P D vwCl (wd N ad C) H → va_S (Aw N ad0 s.heap.size) s.heap H locs → (∀ i : Nat, i ≠ 77 ∧ i ≠ 78 ∧ i ≠ 79 ∧ i ≠ 80 ∧ i ≠ 84 → C i = C0 i) → C 5 = .inr (7, [.ref (ad 6), .ref (ad 7), .ref (ad 8), .ref (ad 9), .ref (ad 10), .ref (ad 11), .ref (ad 12), .ref (ad 13), .ref (ad 14), .ref (ad 15), .ref (ad 16), .ref (ad 17), .ref (ad 18), .int t_there, .int t_lift, .int t_none]) → C 6 = aI g 12 t_down → C 8 = aI g 12 t_pac → C 11 = aI g 12 t_lik → C 17 = aI g 4 t_wy → C 18 = aI g 4 t_wn → C 19 = .inr (9, [.ref (ad 5), .ref (ad 20), .int w_src]) → C 20 = aI g 12 w_over → C 77 = .inr (2, [.ref (ad 5), .ref (ad 19), .ref (ad 78), .ref (ad 79), .ref (ad 80), .int q1.1]) → C 78 = aI g q1.2.2.2.2.1 q1.2.1 → C 79 = aI g q1.2.2.2.2.2.1 q1.2.2.1 → C 80 = aI g q1.2.2.2.2.2.2 q1.2.2.2.1 → C 84 = .inr (0, [.ref (ad 5), .ref (ad 19), .ref (ad 77), .int q23.2, .int x21, .int d_gue, .int q2.1, .int x22]) → lv_has ls 7 [(0, .ref (ad 84)), (1, .int p0), (2, .int p1), (3, .int x3), (4, .int q18), (5, .int x5), (6, .int q18)] → W p l e (headSpec wsX0_go rmX0_go).room s m args below meth c H locs 3 57344 QQ (F0 m 158 ls [.int q24, .int x3]) := by
              intro C H locs ls hP hS hag h5 h6 h8 h11 h17 h18 h19 h20 h77 h78 h79 h80 h84 hl
              refine lv_iand hx hb dX0_go_158 ?_
              obtain ⟨x25, ex25, hf⟩ := lt_e hf
              refine tp_i ex25 ?_
              refine lv_istore_n (lv' := [(3, .int x25), (0, .ref (ad 84)), (1, .int p0), (2, .int p1), (4, .int q18), (5, .int x5), (6, .int q18)]) hx hb dX0_go_159 rfl hl (by decide) rfl (fun ls hl => ?_)
              obtain ⟨x26, ex26, hf⟩ := lt_e hf
              refine lv_iinc (v := x26) (lv' := [(5, .int x26), (3, .int x25), (0, .ref (ad 84)), (1, .int p0), (2, .int p1), (4, .int q18), (6, .int q18)]) hx hb dX0_go_160 hl (k := 5) rfl (by rw [ex26]; rfl) (by decide) rfl (fun ls hl => ?_)
              refine lv_goto (tgt := 44) hx hb dX0_go_163 (by decide) ?_
              exact ih x25 q18 x26 x22 x21 q23.2 C H locs ls hP hS hag h5 h6 h8 h11 h17 h18 h19 h20 h77 h78 h79 h80 h84 (lv_sub hl [2, 3, 4, 1, 5, 0] rfl) hf
            clear hf
            have hf := htq24
            refine lv_if_eq (tgt := 146) hx hb dX0_go_130 (by decide) (fun c27 => ?_) (fun c27 => ?_)
            · have hf := it_e c27 hf
              refine lv_aload_n hx hb dX0_go_146 rfl (lv_at hl 2 rfl) ?_
              refine r_get (own := RX0) (T := TX0) (n := 8) (ci := 0) (v := .ref (ad 19)) hx hb hts nX0 hown hK hP (by omega) h84 rfl 1 (by decide) k6 rfl dX0_go_147 ?_
              refine r_getN (own := RX0) (T := TX9) (n := 3) (ci := 9) (v := .ref (ad 20)) hx hb hts nX9 hown hK hP (by omega) h19 rfl 1 (by decide) k12 rfl dX0_go_150 ?_
              refine lv_iload hx hb dX0_go_153 (lv_at hl 1 rfl) ?_
              obtain ⟨i29, x28, ex28, hf⟩ := ri_e hf
              refine r_iald hx hb hK hP (by omega) h20 i29 dX0_go_155 ex28 ?_
              refine lv_iconst (v := (-1)) hx hb dX0_go_156 (by decide) ?_
              refine lv_ixor hx hb dX0_go_157 ?_
              obtain rfl := Option.some.inj hf
              exact jnq24 C H locs ls hP hS hag h5 h6 h8 h11 h17 h18 h19 h20 h77 h78 h79 h80 h84 (lv_sub hl [2, 3, 4, 5, 0, 6, 1] rfl)
            · have hf := ie_e c27 hf
              refine lv_aload_n hx hb dX0_go_133 rfl (lv_at hl 2 rfl) ?_
              refine r_get (own := RX0) (T := TX0) (n := 8) (ci := 0) (v := .ref (ad 19)) hx hb hts nX0 hown hK hP (by omega) h84 rfl 1 (by decide) k6 rfl dX0_go_134 ?_
              refine r_getN (own := RX0) (T := TX9) (n := 3) (ci := 9) (v := .ref (ad 20)) hx hb hts nX9 hown hK hP (by omega) h19 rfl 1 (by decide) k12 rfl dX0_go_137 ?_
              refine lv_iload hx hb dX0_go_140 (lv_at hl 1 rfl) ?_
              obtain ⟨i31, x30, ex30, hf⟩ := ri_e hf
              refine r_iald hx hb hK hP (by omega) h20 i31 dX0_go_142 ex30 ?_
              refine lv_goto (tgt := 158) hx hb dX0_go_143 (by decide) ?_
              obtain rfl := Option.some.inj hf
              exact jnq24 C H locs ls hP hS hag h5 h6 h8 h11 h17 h18 h19 h20 h77 h78 h79 h80 h84 (lv_sub hl [2, 3, 4, 5, 0, 6, 1] rfl)
          · have hf := it_e c19 hf
            refine lv_goto (tgt := 166) hx hb dX0_go_77 (by decide) ?_
            exact hko x3 x4 x5 x6 x7 x8 C H locs ls hP hS hag h5 h6 h8 h11 h17 h18 h19 h20 h77 h78 h79 h80 h84 (lv_sub hl [1, 2, 3, 4, 5, 6] rfl) hf
  refine key44 _ (fun x9 x10 x11 x12 x13 x14 C H locs ls hP hS hag h5 h6 h8 h11 h17 h18 h19 h20 h77 h78 h79 h80 h84 hl hf => ?_) FU w_src 0 0 0 0 q2.2 C H locs ls hP hS hag h5 h6 h8 h11 h17 h18 h19 h20 h77 h78 h79 h80 h84 (lv_sub hl [3, 4, 5, 2, 1, 0] rfl) hf
  refine lv_aload_n hx hb dX0_go_166 rfl (lv_at hl 0 rfl) ?_
  refine lv_iload_n hx hb dX0_go_167 rfl (lv_at hl 3 rfl) ?_
  obtain ⟨q32, hq32, hf⟩ := bd_e hf
  refine k_iR (va_runS (As := [.int x9]) (rest := [.ref (ad 84)]) ⟨hx, hb, hml, hown, hts⟩ (c_X0_leastOf (l := l) (sz := H.size) (p0 := x9) hN hq32) (va_cwS 1 hts gX0_go_X0_leastOf rfl rfl rfl (by decide +kernel) ⟨Nat.le_of_ble_eq_true rfl, Nat.le_of_ble_eq_true rfl⟩) (preS_of hK hP) rfl rfl hl.1 rfl (lv_room (Nat.le_of_ble_eq_true rfl)) dX0_go_168 ⟨Nat.le_of_ble_eq_true rfl, Nat.le_of_ble_eq_true rfl⟩) hA hP hS (fun H locs hP hS hbz_q32 => ?_)
  refine r_put (own := RX0) (T := TX0) (n := 8) (ci := 0) (v := .int q32) hx hb hts nX0 tyX0 tyX0_ok nmX0 hown hK hI hAd hP hS (by omega) h84 rfl 5 (by decide) k13 rfl rfl rfl (Nat.le_of_ble_eq_true rfl) dX0_go_171 (fun C H locs hP hS he hn => ?_)
  have hag : ∀ i : Nat, i ≠ 77 ∧ i ≠ 78 ∧ i ≠ 79 ∧ i ≠ 80 ∧ i ≠ 84 → C i = C0 i := fun i h => (he i (by omega)).trans (hag i h)
  have h5 := (he 5 (by decide)).trans h5
  have h6 := (he 6 (by decide)).trans h6
  have h8 := (he 8 (by decide)).trans h8
  have h11 := (he 11 (by decide)).trans h11
  have h17 := (he 17 (by decide)).trans h17
  have h18 := (he 18 (by decide)).trans h18
  have h19 := (he 19 (by decide)).trans h19
  have h20 := (he 20 (by decide)).trans h20
  have h77 := (he 77 (by decide)).trans h77
  have h78 := (he 78 (by decide)).trans h78
  have h79 := (he 79 (by decide)).trans h79
  have h80 := (he 80 (by decide)).trans h80
  have h84 : C 84 = .inr (0, [.ref (ad 5), .ref (ad 19), .ref (ad 77), .int x14, .int x13, .int q32, .int q2.1, .int x12]) := hn
  obtain rfl := Option.some.inj hf
  rw [← hQ]
  exact e_vA hx hb hr hI hAd hP hS ⟨hadT, hag, h77, h78, h79, h80, h84⟩ hlocks dX0_go_174

def f_X10_write (p0 : Int64) (p1 : Int32) (tx_len : Int32) (tx_b : Nat → Int32) : Option (Int32 × Int32 × (Nat → Int32)) :=
  if p1 < 1 then
    some ((-3), tx_len, tx_b)
  else
    if p1 ≤ 8 then
      if (tx_len + p1) ≤ 200 then
        (f_X5_append p0 p1 tx_len tx_b).bind fun q4 =>
        some (q4.1, q4.2.1, q4.2.2)
      else
        some ((-5), tx_len, tx_b)
    else
      some ((-3), tx_len, tx_b)
abbrev rmX10_write : Room := { frames := 1, cells := 0, slots := 0, locals := 24 }
set_option maxHeartbeats 4000000 in
set_option maxRecDepth 100000 in
theorem c_X10_write {l : Launch} {D : va_G} {g : Nat → ClassId} {N : Nat} {ad : Nat → Nat} {C : Nat → va_E} {sz : Nat} {tx_len : Int32} {tx_lines : Int32} {tx_ts : Int32} {tx_te : Int32} {tx_b : Nat → Int32} {p0 : Int64} {p1 : Int32} {rr : Int32 × Int32 × (Nat → Int32)} (hN : 86 ≤ N) (hI : Inj N ad) (h0 : C 0 = .inr (10, [.ref (ad 1), .ref (ad 5), .ref (ad 19), .ref (ad 21), .ref (ad 60), .ref (ad 77), .ref (ad 81), .ref (ad 84), .ref (ad 85)])) (h1 : C 1 = .inr (5, [.ref (ad 2), .ref (ad 3), .ref (ad 4), .int tx_len, .int tx_lines, .int tx_ts, .int tx_te])) (h2 : C 2 = aI g 200 tx_b) (hf : f_X10_write p0 p1 tx_len tx_b = some rr) : Met l yX10_write wsX10_write rmX10_write (PcW D g N ad C sz [.ref (ad 0), .long p0, .int p1]) (QiW D N ad sz tP rr.1 (fun C' => (∀ i : Nat, i ≠ 1 ∧ i ≠ 2 → C' i = C i) ∧ (C' 1 = .inr (5, [.ref (ad 2), .ref (ad 3), .ref (ad 4), .int rr.2.1, .int tx_lines, .int tx_ts, .int tx_te])) ∧ (C' 2 = aI g 200 rr.2.2))) 0 0 (Aw N ad sz) := by
  refine Met.ofW (cc := cX10_write) (maxL := 4) (ret := (some .int)) (by decide) rfl ?_
  intro p e s m args below meth c s₁ B hml hv
  obtain ⟨hav, hsz, hK, hP⟩ := hv
  subst hsz
  have hx := B.exec
  have hb := B.bytes
  have hr := B.returns
  have hts := atoms_spec (ws := wsX10_write) B.pre
  have hown : s.vm.findClass RX10 = some m.cls := findClass_of_methodNamed B.named
  have hlocks := B.notSynchronized
  generalize hQ : MQ below (QiW D N ad s.heap.size tP rr.1 (fun C' => (∀ i : Nat, i ≠ 1 ∧ i ≠ 2 → C' i = C i) ∧ (C' 1 = .inr (5, [.ref (ad 2), .ref (ad 3), .ref (ad 4), .int rr.2.1, .int tx_lines, .int tx_ts, .int tx_te])) ∧ (C' 2 = aI g 200 rr.2.2))) args s 0 0 (Aw N ad s.heap.size) = QQ
  have hS : va_S (Aw N ad s.heap.size) s.heap s.heap [] := va_S.rf
  have hA : ∀ q, s.heap.size ≤ q → (Aw N ad s.heap.size) q := fun q h => Or.inr h
  have hAd : ∀ j : Nat, j < N → (Aw N ad s.heap.size) (ad j) := fun j h => Or.inl ⟨j, h, rfl⟩
  obtain ⟨C0, hC0⟩ : ∃ C0 : Nat → va_E, C0 = C := ⟨_, rfl⟩
  have hag : ∀ i : Nat, i ≠ 1 ∧ i ≠ 2 → C i = C0 i := fun i _ => by rw [hC0]
  rw [← hC0] at hQ
  have k0 := hts (.fieldLink RX10 10 "UpDrain" "text" "LUpDrain$Text;") (List.mem_of_getElem? (i := 1) rfl)
  have nX10 : ∀ w ∈ u_ws RX10 TX10 9, w ∈ wsX10_write := fun _ h => List.mem_cons_of_mem _ (List.mem_append_left _ (List.mem_append_right _ h))
  have k2 := nf_2 (A := args) hK
  have nX5 : ∀ w ∈ u_ws RX5 TX5 7, w ∈ wsX10_write := fun _ h => List.mem_cons_of_mem _ (List.mem_append_right _ h)
  have hE := lg_entry_eq m [.ref (ad 0), .long p0, .int p1] 4
  rw [← hav] at hE
  rw [hE]
  have hl := lv_entry [.ref (ad 0), .long p0, .int p1] (n := 4) (Nat.le_of_ble_eq_true rfl)
  generalize (lg_sl [.ref (ad 0), .long p0, .int p1] ++ List.replicate (4 - (lg_sl [.ref (ad 0), .long p0, .int p1]).length) Slot.unset).toArray = ls at hl ⊢
  have hl : lv_has ls 4 [(0, .ref (ad 0)), (1, .long p0), (3, .int p1)] := hl
  clear hE
  unfold f_X10_write at hf
  suffices hgo : ∀ (H : Heap) (locs : List Loc), va_P D vwCl (wd N ad C) H → va_S (Aw N ad s.heap.size) s.heap H locs → W p l e (headSpec wsX10_write rmX10_write).room s m args below meth c H locs 0 0 QQ (F0 m 0 ls []) from hgo s.heap [] hP hS
  clear hS hP
  intro H locs hP hS
  refine lv_iload_n hx hb dX10_write_0 rfl (lv_at hl 2 rfl) ?_
  refine lv_iconst (v := 1) hx hb dX10_write_1 (by decide) ?_
  refine lv_icmp_lt (tgt := 11) hx hb dX10_write_2 (by decide) (fun c1 => ?_) (fun c1 => ?_)
  · have hf := it_e c1 hf
    refine lv_bipush (v := (-3)) hx hb dX10_write_11 (by decide) ?_
    obtain rfl := Option.some.inj hf
    rw [← hQ]
    exact e_iW hx hb hr rfl (tP_i _) hP hS ⟨hag, h1, h2⟩ hlocks dX10_write_13
  · have hf := ie_e c1 hf
    refine lv_iload_n hx hb dX10_write_5 rfl (lv_at hl 2 rfl) ?_
    refine lv_bipush (v := 8) hx hb dX10_write_6 (by decide) ?_
    refine lv_icmp_le (tgt := 14) hx hb dX10_write_8 (by decide) (fun c2 => ?_) (fun c2 => ?_)
    · have hf := it_e c2 hf
      refine lv_aload_n hx hb dX10_write_14 rfl (lv_at hl 0 rfl) ?_
      refine r_get (own := RX10) (T := TX10) (n := 9) (ci := 10) (v := .ref (ad 1)) hx hb hts nX10 hown hK hP (by omega) h0 rfl 0 (by decide) k0 rfl dX10_write_15 ?_
      refine r_getN (own := RX10) (T := TX5) (n := 7) (ci := 5) (v := .int tx_len) hx hb hts nX5 hown hK hP (by omega) h1 rfl 3 (by decide) k2 rfl dX10_write_18 ?_
      refine lv_iload_n hx hb dX10_write_21 rfl (lv_at hl 2 rfl) ?_
      refine lv_iadd hx hb dX10_write_22 ?_
      refine lv_sipush (v := 200) hx hb dX10_write_23 (by decide) ?_
      refine lv_icmp_le (tgt := 32) hx hb dX10_write_26 (by decide) (fun c3 => ?_) (fun c3 => ?_)
      · have hf := it_e c3 hf
        refine lv_aload_n hx hb dX10_write_32 rfl (lv_at hl 0 rfl) ?_
        refine r_get (own := RX10) (T := TX10) (n := 9) (ci := 10) (v := .ref (ad 1)) hx hb hts nX10 hown hK hP (by omega) h0 rfl 0 (by decide) k0 rfl dX10_write_33 ?_
        refine lv_lload_n hx hb dX10_write_36 rfl (lv_at hl 1 rfl) ?_
        refine lv_iload_n hx hb dX10_write_37 rfl (lv_at hl 2 rfl) ?_
        obtain ⟨q4, hq4, hf⟩ := bd_e hf
        refine k_iW (va_runV (C := RX5) (As := [.long p0, .int p1]) (rest := []) ⟨hx, hb, hml, hown, hts⟩ (c_X5_append (l := l) (sz := H.size) (p0 := p0) (p1 := p1) hN hI h1 h2 hq4) (cwV 2 hts gX10_write_X5_append rfl rfl rfl (by decide +kernel) ⟨Nat.le_of_ble_eq_true rfl, Nat.le_of_ble_eq_true rfl⟩) (preV_of hK hP (by omega) h1 rfl) rfl rfl hl.1 rfl (lv_room (Nat.le_of_ble_eq_true rfl)) dX10_write_38 ⟨Nat.le_of_ble_eq_true rfl, Nat.le_of_ble_eq_true rfl⟩) hA hAd hS (fun C H locs hP hS hpo hbz_q4 => ?_)
        obtain ⟨he, h1, h2⟩ := hpo
        have hag : ∀ i : Nat, i ≠ 1 ∧ i ≠ 2 → C i = C0 i := fun i h => (he i (by omega)).trans (hag i h)
        have h0 := (he 0 (by decide)).trans h0
        obtain rfl := Option.some.inj hf
        rw [← hQ]
        exact e_iW hx hb hr rfl (tP_i _) hP hS ⟨hag, h1, h2⟩ hlocks dX10_write_41
      · have hf := ie_e c3 hf
        refine lv_bipush (v := (-5)) hx hb dX10_write_29 (by decide) ?_
        obtain rfl := Option.some.inj hf
        rw [← hQ]
        exact e_iW hx hb hr rfl (tP_i _) hP hS ⟨hag, h1, h2⟩ hlocks dX10_write_31
    · have hf := ie_e c2 hf
      refine lv_bipush (v := (-3)) hx hb dX10_write_11 (by decide) ?_
      obtain rfl := Option.some.inj hf
      rw [← hQ]
      exact e_iW hx hb hr rfl (tP_i _) hP hS ⟨hag, h1, h2⟩ hlocks dX10_write_13

def f_X10_erase (tx_len : Int32) : Option (Int32 × Int32) :=
  (f_X5_empty tx_len).bind fun q1 =>
  some (q1.1, q1.2)
abbrev rmX10_erase : Room := { frames := 1, cells := 0, slots := 0, locals := 21 }
set_option maxHeartbeats 4000000 in
set_option maxRecDepth 100000 in
theorem c_X10_erase {l : Launch} {D : va_G} {g : Nat → ClassId} {N : Nat} {ad : Nat → Nat} {C : Nat → va_E} {sz : Nat} {tx_len : Int32} {tx_lines : Int32} {tx_ts : Int32} {tx_te : Int32}  {rr : Int32 × Int32} (hN : 86 ≤ N) (hI : Inj N ad) (h0 : C 0 = .inr (10, [.ref (ad 1), .ref (ad 5), .ref (ad 19), .ref (ad 21), .ref (ad 60), .ref (ad 77), .ref (ad 81), .ref (ad 84), .ref (ad 85)])) (h1 : C 1 = .inr (5, [.ref (ad 2), .ref (ad 3), .ref (ad 4), .int tx_len, .int tx_lines, .int tx_ts, .int tx_te])) (hf : f_X10_erase tx_len = some rr) : Met l yX10_erase wsX10_erase rmX10_erase (PcW D g N ad C sz [.ref (ad 0)]) (QiW D N ad sz tP rr.1 (fun C' => (∀ i : Nat, i ≠ 1 → C' i = C i) ∧ (C' 1 = .inr (5, [.ref (ad 2), .ref (ad 3), .ref (ad 4), .int rr.2, .int tx_lines, .int tx_ts, .int tx_te])))) 0 0 (Aw N ad sz) := by
  refine Met.ofW (cc := cX10_erase) (maxL := 1) (ret := (some .int)) (by decide) rfl ?_
  intro p e s m args below meth c s₁ B hml hv
  obtain ⟨hav, hsz, hK, hP⟩ := hv
  subst hsz
  have hx := B.exec
  have hb := B.bytes
  have hr := B.returns
  have hts := atoms_spec (ws := wsX10_erase) B.pre
  have hown : s.vm.findClass RX10 = some m.cls := findClass_of_methodNamed B.named
  have hlocks := B.notSynchronized
  generalize hQ : MQ below (QiW D N ad s.heap.size tP rr.1 (fun C' => (∀ i : Nat, i ≠ 1 → C' i = C i) ∧ (C' 1 = .inr (5, [.ref (ad 2), .ref (ad 3), .ref (ad 4), .int rr.2, .int tx_lines, .int tx_ts, .int tx_te])))) args s 0 0 (Aw N ad s.heap.size) = QQ
  have hS : va_S (Aw N ad s.heap.size) s.heap s.heap [] := va_S.rf
  have hA : ∀ q, s.heap.size ≤ q → (Aw N ad s.heap.size) q := fun q h => Or.inr h
  have hAd : ∀ j : Nat, j < N → (Aw N ad s.heap.size) (ad j) := fun j h => Or.inl ⟨j, h, rfl⟩
  obtain ⟨C0, hC0⟩ : ∃ C0 : Nat → va_E, C0 = C := ⟨_, rfl⟩
  have hag : ∀ i : Nat, i ≠ 1 → C i = C0 i := fun i _ => by rw [hC0]
  rw [← hC0] at hQ
  have k0 := hts (.fieldLink RX10 10 "UpDrain" "text" "LUpDrain$Text;") (List.mem_of_getElem? (i := 1) rfl)
  have nX10 : ∀ w ∈ u_ws RX10 TX10 9, w ∈ wsX10_erase := fun _ h => List.mem_cons_of_mem _ (List.mem_append_left _ (List.mem_append_right _ h))
  have hE := lg_entry_eq m [.ref (ad 0)] 1
  rw [← hav] at hE
  rw [hE]
  have hl := lv_entry [.ref (ad 0)] (n := 1) (Nat.le_of_ble_eq_true rfl)
  generalize (lg_sl [.ref (ad 0)] ++ List.replicate (1 - (lg_sl [.ref (ad 0)]).length) Slot.unset).toArray = ls at hl ⊢
  have hl : lv_has ls 1 [(0, .ref (ad 0))] := hl
  clear hE
  unfold f_X10_erase at hf
  suffices hgo : ∀ (H : Heap) (locs : List Loc), va_P D vwCl (wd N ad C) H → va_S (Aw N ad s.heap.size) s.heap H locs → W p l e (headSpec wsX10_erase rmX10_erase).room s m args below meth c H locs 0 0 QQ (F0 m 0 ls []) from hgo s.heap [] hP hS
  clear hS hP
  intro H locs hP hS
  refine lv_aload_n hx hb dX10_erase_0 rfl (lv_at hl 0 rfl) ?_
  refine r_get (own := RX10) (T := TX10) (n := 9) (ci := 10) (v := .ref (ad 1)) hx hb hts nX10 hown hK hP (by omega) h0 rfl 0 (by decide) k0 rfl dX10_erase_1 ?_
  obtain ⟨q1, hq1, hf⟩ := bd_e hf
  refine k_iW (va_runV (C := RX5) (As := []) (rest := []) ⟨hx, hb, hml, hown, hts⟩ (c_X5_empty (l := l) (sz := H.size)  hN hI h1 hq1) (cwV 0 hts gX10_erase_X5_empty rfl rfl rfl (by decide +kernel) ⟨Nat.le_of_ble_eq_true rfl, Nat.le_of_ble_eq_true rfl⟩) (preV_of hK hP (by omega) h1 rfl) rfl rfl hl.1 rfl (lv_room (Nat.le_of_ble_eq_true rfl)) dX10_erase_4 ⟨Nat.le_of_ble_eq_true rfl, Nat.le_of_ble_eq_true rfl⟩) hA hAd hS (fun C H locs hP hS hpo hbz_q1 => ?_)
  obtain ⟨he, h1⟩ := hpo
  have hag : ∀ i : Nat, i ≠ 1 → C i = C0 i := fun i h => (he i (by omega)).trans (hag i h)
  have h0 := (he 0 (by decide)).trans h0
  obtain rfl := Option.some.inj hf
  rw [← hQ]
  exact e_iW hx hb hr rfl (tP_i _) hP hS ⟨hag, h1⟩ hlocks dX10_erase_7

def f_X10_fault (tx_len : Int32) (tx_lines : Int32) (tx_ts : Int32) (tx_te : Int32) (tx_b : Nat → Int32) (tx_k : Nat → Int32) (tx_n : Nat → Int32) : Option (Int32 × Int32 × Int32 × Int32 × (Nat → Int32) × (Nat → Int32)) :=
  (f_X5_read tx_len tx_lines tx_ts tx_te tx_b tx_k tx_n).bind fun q1 =>
  some (q1.1, q1.2.1, q1.2.2.1, q1.2.2.2.1, q1.2.2.2.2.1, q1.2.2.2.2.2)
abbrev rmX10_fault : Room := { frames := 8, cells := 0, slots := 0, locals := 177 }
set_option maxHeartbeats 4000000 in
set_option maxRecDepth 100000 in
theorem c_X10_fault {l : Launch} {adK adV tb : Nat → Nat} {D : va_G} {g : Nat → ClassId} {N : Nat} {ad : Nat → Nat} {C : Nat → va_E} {sz : Nat} {tx_len : Int32} {tx_lines : Int32} {tx_ts : Int32} {tx_te : Int32} {tx_b : Nat → Int32} {tx_k : Nat → Int32} {tx_n : Nat → Int32}  {rr : Int32 × Int32 × Int32 × Int32 × (Nat → Int32) × (Nat → Int32)} (hN : 86 ≤ N) (hI : Inj N ad) (h0 : C 0 = .inr (10, [.ref (ad 1), .ref (ad 5), .ref (ad 19), .ref (ad 21), .ref (ad 60), .ref (ad 77), .ref (ad 81), .ref (ad 84), .ref (ad 85)])) (h1 : C 1 = .inr (5, [.ref (ad 2), .ref (ad 3), .ref (ad 4), .int tx_len, .int tx_lines, .int tx_ts, .int tx_te])) (h2 : C 2 = aI g 200 tx_b) (h3 : C 3 = aI g 9 tx_k) (h4 : C 4 = aI g 45 tx_n) (hf : f_X10_fault tx_len tx_lines tx_ts tx_te tx_b tx_k tx_n = some rr) : Met l yX10_fault wsX10_fault rmX10_fault (PcT D g N ad C adK adV tb sz [.ref (ad 0)]) (QiW D N ad sz tP rr.1 (fun C' => (∀ i : Nat, i ≠ 1 ∧ i ≠ 3 ∧ i ≠ 4 → C' i = C i) ∧ (C' 1 = .inr (5, [.ref (ad 2), .ref (ad 3), .ref (ad 4), .int tx_len, .int rr.2.1, .int rr.2.2.1, .int rr.2.2.2.1])) ∧ (C' 3 = aI g 9 rr.2.2.2.2.1) ∧ (C' 4 = aI g 45 rr.2.2.2.2.2))) 0 0 (Aw N ad sz) := by
  refine Met.ofW (cc := cX10_fault) (maxL := 1) (ret := (some .int)) (by decide) rfl ?_
  intro p e s m args below meth c s₁ B hml hv
  obtain ⟨hav, hsz, hK, hP, hSDw⟩ := hv
  subst hsz
  have hx := B.exec
  have hb := B.bytes
  have hr := B.returns
  have hts := atoms_spec (ws := wsX10_fault) B.pre
  have hown : s.vm.findClass RX10 = some m.cls := findClass_of_methodNamed B.named
  have hlocks := B.notSynchronized
  generalize hQ : MQ below (QiW D N ad s.heap.size tP rr.1 (fun C' => (∀ i : Nat, i ≠ 1 ∧ i ≠ 3 ∧ i ≠ 4 → C' i = C i) ∧ (C' 1 = .inr (5, [.ref (ad 2), .ref (ad 3), .ref (ad 4), .int tx_len, .int rr.2.1, .int rr.2.2.1, .int rr.2.2.2.1])) ∧ (C' 3 = aI g 9 rr.2.2.2.2.1) ∧ (C' 4 = aI g 45 rr.2.2.2.2.2))) args s 0 0 (Aw N ad s.heap.size) = QQ
  have hS : va_S (Aw N ad s.heap.size) s.heap s.heap [] := va_S.rf
  have hA : ∀ q, s.heap.size ≤ q → (Aw N ad s.heap.size) q := fun q h => Or.inr h
  have hSD : SD adK adV tb (Aw N ad s.heap.size) s s.heap := hSDw
  have hAB : ∀ q, (Aw N ad s.heap.size) q → Aw N ad s.heap.size q := fun q h => h
  have hAd : ∀ j : Nat, j < N → (Aw N ad s.heap.size) (ad j) := fun j h => Or.inl ⟨j, h, rfl⟩
  obtain ⟨C0, hC0⟩ : ∃ C0 : Nat → va_E, C0 = C := ⟨_, rfl⟩
  have hag : ∀ i : Nat, i ≠ 1 ∧ i ≠ 3 ∧ i ≠ 4 → C i = C0 i := fun i _ => by rw [hC0]
  rw [← hC0] at hQ
  have k0 := hts (.fieldLink RX10 10 "UpDrain" "text" "LUpDrain$Text;") (List.mem_of_getElem? (i := 1) rfl)
  have nX10 : ∀ w ∈ u_ws RX10 TX10 9, w ∈ wsX10_fault := fun _ h => List.mem_cons_of_mem _ (List.mem_append_left _ (List.mem_append_right _ h))
  have hE := lg_entry_eq m [.ref (ad 0)] 1
  rw [← hav] at hE
  rw [hE]
  have hl := lv_entry [.ref (ad 0)] (n := 1) (Nat.le_of_ble_eq_true rfl)
  generalize (lg_sl [.ref (ad 0)] ++ List.replicate (1 - (lg_sl [.ref (ad 0)]).length) Slot.unset).toArray = ls at hl ⊢
  have hl : lv_has ls 1 [(0, .ref (ad 0))] := hl
  clear hE
  unfold f_X10_fault at hf
  suffices hgo : ∀ (H : Heap) (locs : List Loc), va_P D vwCl (wd N ad C) H → va_S (Aw N ad s.heap.size) s.heap H locs → W p l e (headSpec wsX10_fault rmX10_fault).room s m args below meth c H locs 0 0 QQ (F0 m 0 ls []) from hgo s.heap [] hP hS
  clear hS hP
  intro H locs hP hS
  refine lv_aload_n hx hb dX10_fault_0 rfl (lv_at hl 0 rfl) ?_
  refine r_get (own := RX10) (T := TX10) (n := 9) (ci := 10) (v := .ref (ad 1)) hx hb hts nX10 hown hK hP (by omega) h0 rfl 0 (by decide) k0 rfl dX10_fault_1 ?_
  obtain ⟨q1, hq1, hf⟩ := bd_e hf
  refine k_iW (va_runV (C := RX5) (As := []) (rest := []) ⟨hx, hb, hml, hown, hts⟩ (c_X5_read (l := l) (sz := H.size) (adK := adK) (adV := adV) (tb := tb) hN hI h1 h2 h3 h4 hq1) (cwV 0 hts gX10_fault_X5_read rfl rfl rfl (by decide +kernel) ⟨Nat.le_of_ble_eq_true rfl, Nat.le_of_ble_eq_true rfl⟩) (preT_of hK hSDw hS hAB hP (by omega) h1 rfl) rfl rfl hl.1 rfl (lv_room (Nat.le_of_ble_eq_true rfl)) dX10_fault_4 ⟨Nat.le_of_ble_eq_true rfl, Nat.le_of_ble_eq_true rfl⟩) hA hAd hS (fun C H locs hP hS hpo hbz_q1 => ?_)
  obtain ⟨he, h1, h3, h4⟩ := hpo
  have hag : ∀ i : Nat, i ≠ 1 ∧ i ≠ 3 ∧ i ≠ 4 → C i = C0 i := fun i h => (he i (by omega)).trans (hag i h)
  have h0 := (he 0 (by decide)).trans h0
  have h2 := (he 2 (by decide)).trans h2
  obtain rfl := Option.some.inj hf
  rw [← hQ]
  exact e_iW hx hb hr rfl (tP_i _) hP hS ⟨hag, h1, h3, h4⟩ hlocks dX10_fault_7

def f_X10_lookAgain (t_down : Nat → Int32) (t_min : Nat → Int32) (t_gone : Nat → Int32) (t_infl : Nat → Int32) (t_lik : Nat → Int32) (t_str : Nat → Int32) (t_from : Nat → Int32) (t_unt : Nat → Int32) (t_there : Int32) (w_src : Int32) (w_over : Nat → Int32) (wa_g : Nat → Int32) (th_k1 : Int32) (th_k2 : Int32) (h_solved : Int32) (sL : Nat → Nat → Int32) (sT : Nat → Nat → Int32) (sF : Nat → Int32) (sU : Nat → Int32) : Option (Int32 × (Nat → Int32) × (Nat → Int32) × Int32 × Int32 × Int32 × (Nat → Nat → Int32) × (Nat → Nat → Int32) × (Nat → Int32) × (Nat → Int32)) :=
  (f_X9_renew t_down t_lik t_there w_src w_over).bind fun q1 =>
  (f_X8_renew t_down t_min t_gone t_infl t_str t_from t_unt t_there q1.2 wa_g sL sT sF sU).bind fun q2 =>
  (f_X6_doubt th_k1 th_k2).bind fun q3 =>
  (f_X2_doubt h_solved).bind fun q4 =>
  some (q1.1, q1.2, q2.1, q3.1, q3.2, q4, q2.2.1, q2.2.2.1, q2.2.2.2.1, q2.2.2.2.2)
abbrev rmX10_lookAgain : Room := { frames := 3, cells := 0, slots := 0, locals := 65 }
set_option maxHeartbeats 4000000 in
set_option maxRecDepth 100000 in
theorem c_X10_lookAgain {l : Launch} {D : va_G} {g : Nat → ClassId} {N : Nat} {ad : Nat → Nat} {C : Nat → va_E} {sz : Nat} {t_there : Int32} {t_lift : Int32} {t_none : Int32} {t_down : Nat → Int32} {t_min : Nat → Int32} {t_gone : Nat → Int32} {t_infl : Nat → Int32} {t_lik : Nat → Int32} {t_str : Nat → Int32} {t_from : Nat → Int32} {t_unt : Nat → Int32} {w_src : Int32} {w_over : Nat → Int32} {wa_g : Nat → Int32} {th_none : Int64} {th_all1 : Int64} {th_all2 : Int64} {th_k1 : Int32} {th_k2 : Int32} {th_size : Int32} {h_solved : Int32} {sL : Nat → Nat → Int32} {sT : Nat → Nat → Int32} {sF : Nat → Int32} {sU : Nat → Int32}  {rr : Int32 × (Nat → Int32) × (Nat → Int32) × Int32 × Int32 × Int32 × (Nat → Nat → Int32) × (Nat → Nat → Int32) × (Nat → Int32) × (Nat → Int32)} (hN : 86 ≤ N) (hI : Inj N ad) (h0 : C 0 = .inr (10, [.ref (ad 1), .ref (ad 5), .ref (ad 19), .ref (ad 21), .ref (ad 60), .ref (ad 77), .ref (ad 81), .ref (ad 84), .ref (ad 85)])) (h5 : C 5 = .inr (7, [.ref (ad 6), .ref (ad 7), .ref (ad 8), .ref (ad 9), .ref (ad 10), .ref (ad 11), .ref (ad 12), .ref (ad 13), .ref (ad 14), .ref (ad 15), .ref (ad 16), .ref (ad 17), .ref (ad 18), .int t_there, .int t_lift, .int t_none])) (h6 : C 6 = aI g 12 t_down) (h7 : C 7 = aI g 12 t_min) (h9 : C 9 = aI g 12 t_gone) (h10 : C 10 = aI g 12 t_infl) (h11 : C 11 = aI g 12 t_lik) (h12 : C 12 = aI g 12 t_str) (h13 : C 13 = aI g 12 t_from) (h14 : C 14 = aI g 12 t_unt) (h19 : C 19 = .inr (9, [.ref (ad 5), .ref (ad 20), .int w_src])) (h20 : C 20 = aI g 12 w_over) (h21 : C 21 = .inr (8, [.ref (ad 5), .ref (ad 19), .ref (ad 22), .ref (ad 23)])) (h22 : C 22 = aI g 12 wa_g) (h23 : C 23 = aS g 12 (fun i => if i < 12 then some (ad (24 + 3 * i)) else none)) (h60 : C 60 = .inr (6, [.ref (ad 5), .ref (ad 19), .ref (ad 21), .ref (ad 61), .ref (ad 62), .ref (ad 65), .ref (ad 66), .long th_none, .long th_all1, .long th_all2, .int th_k1, .int th_k2, .int th_size])) (h77 : C 77 = .inr (2, [.ref (ad 5), .ref (ad 19), .ref (ad 78), .ref (ad 79), .ref (ad 80), .int h_solved])) (hS_ : PoolS g ad C sL sT sF sU) (hf : f_X10_lookAgain t_down t_min t_gone t_infl t_lik t_str t_from t_unt t_there w_src w_over wa_g th_k1 th_k2 h_solved sL sT sF sU = some rr) : Met l yX10_lookAgain wsX10_lookAgain rmX10_lookAgain (PcW D g N ad C sz [.ref (ad 0)]) (QvW D N ad sz (fun C' => (∀ i : Nat, i ≠ 19 ∧ i ≠ 20 ∧ i ≠ 22 ∧ i ≠ 60 ∧ i ≠ 77 ∧ (i < 24 ∨ 64 < i ∨ i = 60 ∨ i = 61) → C' i = C i) ∧ (C' 19 = .inr (9, [.ref (ad 5), .ref (ad 20), .int rr.1])) ∧ (C' 20 = aI g 12 rr.2.1) ∧ (C' 22 = aI g 12 rr.2.2.1) ∧ (C' 60 = .inr (6, [.ref (ad 5), .ref (ad 19), .ref (ad 21), .ref (ad 61), .ref (ad 62), .ref (ad 65), .ref (ad 66), .long th_none, .long th_all1, .long th_all2, .int rr.2.2.2.1, .int rr.2.2.2.2.1, .int th_size])) ∧ (C' 77 = .inr (2, [.ref (ad 5), .ref (ad 19), .ref (ad 78), .ref (ad 79), .ref (ad 80), .int rr.2.2.2.2.2.1])) ∧ (PoolS g ad C' rr.2.2.2.2.2.2.1 rr.2.2.2.2.2.2.2.1 rr.2.2.2.2.2.2.2.2.1 rr.2.2.2.2.2.2.2.2.2))) 0 0 (Aw N ad sz) := by
  refine Met.ofW (cc := cX10_lookAgain) (maxL := 1) (ret := none) (by decide) rfl ?_
  intro p e s m args below meth c s₁ B hml hv
  obtain ⟨hav, hsz, hK, hP⟩ := hv
  subst hsz
  have hx := B.exec
  have hb := B.bytes
  have hr := B.returns
  have hts := atoms_spec (ws := wsX10_lookAgain) B.pre
  have hown : s.vm.findClass RX10 = some m.cls := findClass_of_methodNamed B.named
  have hlocks := B.notSynchronized
  generalize hQ : MQ below (QvW D N ad s.heap.size (fun C' => (∀ i : Nat, i ≠ 19 ∧ i ≠ 20 ∧ i ≠ 22 ∧ i ≠ 60 ∧ i ≠ 77 ∧ (i < 24 ∨ 64 < i ∨ i = 60 ∨ i = 61) → C' i = C i) ∧ (C' 19 = .inr (9, [.ref (ad 5), .ref (ad 20), .int rr.1])) ∧ (C' 20 = aI g 12 rr.2.1) ∧ (C' 22 = aI g 12 rr.2.2.1) ∧ (C' 60 = .inr (6, [.ref (ad 5), .ref (ad 19), .ref (ad 21), .ref (ad 61), .ref (ad 62), .ref (ad 65), .ref (ad 66), .long th_none, .long th_all1, .long th_all2, .int rr.2.2.2.1, .int rr.2.2.2.2.1, .int th_size])) ∧ (C' 77 = .inr (2, [.ref (ad 5), .ref (ad 19), .ref (ad 78), .ref (ad 79), .ref (ad 80), .int rr.2.2.2.2.2.1])) ∧ (PoolS g ad C' rr.2.2.2.2.2.2.1 rr.2.2.2.2.2.2.2.1 rr.2.2.2.2.2.2.2.2.1 rr.2.2.2.2.2.2.2.2.2))) args s 0 0 (Aw N ad s.heap.size) = QQ
  have hS : va_S (Aw N ad s.heap.size) s.heap s.heap [] := va_S.rf
  have hA : ∀ q, s.heap.size ≤ q → (Aw N ad s.heap.size) q := fun q h => Or.inr h
  have hAd : ∀ j : Nat, j < N → (Aw N ad s.heap.size) (ad j) := fun j h => Or.inl ⟨j, h, rfl⟩
  obtain ⟨C0, hC0⟩ : ∃ C0 : Nat → va_E, C0 = C := ⟨_, rfl⟩
  have hag : ∀ i : Nat, i ≠ 19 ∧ i ≠ 20 ∧ i ≠ 22 ∧ i ≠ 60 ∧ i ≠ 77 ∧ (i < 24 ∨ 64 < i ∨ i = 60 ∨ i = 61) → C i = C0 i := fun i _ => by rw [hC0]
  rw [← hC0] at hQ
  have k0 := hts (.fieldLink RX10 28 "UpDrain" "ways" "LUpDrain$Ways;") (List.mem_of_getElem? (i := 1) rfl)
  have nX10 : ∀ w ∈ u_ws RX10 TX10 9, w ∈ wsX10_lookAgain := fun _ h => List.mem_cons_of_mem _ (List.mem_append_left _ (List.mem_append_left _ (List.mem_append_left _ (List.mem_append_left _ (List.mem_append_left _ (List.mem_append_left _ (List.mem_append_right _ h)))))))
  have k2 := hts (.fieldLink RX10 37 "UpDrain" "water" "LUpDrain$Water;") (List.mem_of_getElem? (i := 2) rfl)
  have k3 := hts (.fieldLink RX10 46 "UpDrain" "thoughts" "LUpDrain$Thoughts;") (List.mem_of_getElem? (i := 3) rfl)
  have k4 := hts (.fieldLink RX10 53 "UpDrain" "hunt" "LUpDrain$Hunt;") (List.mem_of_getElem? (i := 4) rfl)
  have hE := lg_entry_eq m [.ref (ad 0)] 1
  rw [← hav] at hE
  rw [hE]
  have hl := lv_entry [.ref (ad 0)] (n := 1) (Nat.le_of_ble_eq_true rfl)
  generalize (lg_sl [.ref (ad 0)] ++ List.replicate (1 - (lg_sl [.ref (ad 0)]).length) Slot.unset).toArray = ls at hl ⊢
  have hl : lv_has ls 1 [(0, .ref (ad 0))] := hl
  clear hE
  unfold f_X10_lookAgain at hf
  suffices hgo : ∀ (H : Heap) (locs : List Loc), va_P D vwCl (wd N ad C) H → va_S (Aw N ad s.heap.size) s.heap H locs → W p l e (headSpec wsX10_lookAgain rmX10_lookAgain).room s m args below meth c H locs 0 0 QQ (F0 m 0 ls []) from hgo s.heap [] hP hS
  clear hS hP
  intro H locs hP hS
  refine lv_aload_n hx hb dX10_lookAgain_0 rfl (lv_at hl 0 rfl) ?_
  refine r_get (own := RX10) (T := TX10) (n := 9) (ci := 10) (v := .ref (ad 19)) hx hb hts nX10 hown hK hP (by omega) h0 rfl 2 (by decide) k0 rfl dX10_lookAgain_1 ?_
  obtain ⟨q1, hq1, hf⟩ := bd_e hf
  refine k_vW (va_runV (C := RX9) (As := []) (rest := []) ⟨hx, hb, hml, hown, hts⟩ (c_X9_renew (l := l) (sz := H.size)  hN hI h5 h6 h11 h19 h20 hq1) (cwV 0 hts gX10_lookAgain_X9_renew rfl rfl rfl (by decide +kernel) ⟨Nat.le_of_ble_eq_true rfl, Nat.le_of_ble_eq_true rfl⟩) (preV_of hK hP (by omega) h19 rfl) rfl rfl hl.1 rfl (lv_room (Nat.le_of_ble_eq_true rfl)) dX10_lookAgain_4 ⟨Nat.le_of_ble_eq_true rfl, Nat.le_of_ble_eq_true rfl⟩) hA hAd hS (fun C H locs hP hS hpo => ?_)
  obtain ⟨he, h19, h20⟩ := hpo
  have hag : ∀ i : Nat, i ≠ 19 ∧ i ≠ 20 ∧ i ≠ 22 ∧ i ≠ 60 ∧ i ≠ 77 ∧ (i < 24 ∨ 64 < i ∨ i = 60 ∨ i = 61) → C i = C0 i := fun i h => (he i (by omega)).trans (hag i h)
  have h0 := (he 0 (by decide)).trans h0
  have h5 := (he 5 (by decide)).trans h5
  have h6 := (he 6 (by decide)).trans h6
  have h7 := (he 7 (by decide)).trans h7
  have h9 := (he 9 (by decide)).trans h9
  have h10 := (he 10 (by decide)).trans h10
  have h11 := (he 11 (by decide)).trans h11
  have h12 := (he 12 (by decide)).trans h12
  have h13 := (he 13 (by decide)).trans h13
  have h14 := (he 14 (by decide)).trans h14
  have h21 := (he 21 (by decide)).trans h21
  have h22 := (he 22 (by decide)).trans h22
  have h23 := (he 23 (by decide)).trans h23
  have h60 := (he 60 (by decide)).trans h60
  have h77 := (he 77 (by decide)).trans h77
  have hS_ := hS_.ne (fun i h1 h2 => he i (by omega))
  refine lv_aload_n hx hb dX10_lookAgain_7 rfl (lv_at hl 0 rfl) ?_
  refine r_get (own := RX10) (T := TX10) (n := 9) (ci := 10) (v := .ref (ad 21)) hx hb hts nX10 hown hK hP (by omega) h0 rfl 3 (by decide) k2 rfl dX10_lookAgain_8 ?_
  obtain ⟨q2, hq2, hf⟩ := bd_e hf
  refine k_vW (va_runV (C := RX8) (As := []) (rest := []) ⟨hx, hb, hml, hown, hts⟩ (c_X8_renew (l := l) (sz := H.size)  hN hI h5 h6 h7 h9 h10 h12 h13 h14 h19 h20 h21 h22 h23 hS_ hq2) (cwV 0 hts gX10_lookAgain_X8_renew rfl rfl rfl (by decide +kernel) ⟨Nat.le_of_ble_eq_true rfl, Nat.le_of_ble_eq_true rfl⟩) (preV_of hK hP (by omega) h21 rfl) rfl rfl hl.1 rfl (lv_room (Nat.le_of_ble_eq_true rfl)) dX10_lookAgain_11 ⟨Nat.le_of_ble_eq_true rfl, Nat.le_of_ble_eq_true rfl⟩) hA hAd hS (fun C H locs hP hS hpo => ?_)
  obtain ⟨he, h22, hS_⟩ := hpo
  have hag : ∀ i : Nat, i ≠ 19 ∧ i ≠ 20 ∧ i ≠ 22 ∧ i ≠ 60 ∧ i ≠ 77 ∧ (i < 24 ∨ 64 < i ∨ i = 60 ∨ i = 61) → C i = C0 i := fun i h => (he i (by omega)).trans (hag i h)
  have h0 := (he 0 (by decide)).trans h0
  have h5 := (he 5 (by decide)).trans h5
  have h6 := (he 6 (by decide)).trans h6
  have h7 := (he 7 (by decide)).trans h7
  have h9 := (he 9 (by decide)).trans h9
  have h10 := (he 10 (by decide)).trans h10
  have h11 := (he 11 (by decide)).trans h11
  have h12 := (he 12 (by decide)).trans h12
  have h13 := (he 13 (by decide)).trans h13
  have h14 := (he 14 (by decide)).trans h14
  have h19 := (he 19 (by decide)).trans h19
  have h20 := (he 20 (by decide)).trans h20
  have h21 := (he 21 (by decide)).trans h21
  have h23 := (he 23 (by decide)).trans h23
  have h60 := (he 60 (by decide)).trans h60
  have h77 := (he 77 (by decide)).trans h77
  refine lv_aload_n hx hb dX10_lookAgain_14 rfl (lv_at hl 0 rfl) ?_
  refine r_get (own := RX10) (T := TX10) (n := 9) (ci := 10) (v := .ref (ad 60)) hx hb hts nX10 hown hK hP (by omega) h0 rfl 4 (by decide) k3 rfl dX10_lookAgain_15 ?_
  obtain ⟨q3, hq3, hf⟩ := bd_e hf
  refine k_vW (va_runV (C := RX6) (As := []) (rest := []) ⟨hx, hb, hml, hown, hts⟩ (c_X6_doubt (l := l) (sz := H.size)  hN hI h60 hq3) (cwV 0 hts gX10_lookAgain_X6_doubt rfl rfl rfl (by decide +kernel) ⟨Nat.le_of_ble_eq_true rfl, Nat.le_of_ble_eq_true rfl⟩) (preV_of hK hP (by omega) h60 rfl) rfl rfl hl.1 rfl (lv_room (Nat.le_of_ble_eq_true rfl)) dX10_lookAgain_18 ⟨Nat.le_of_ble_eq_true rfl, Nat.le_of_ble_eq_true rfl⟩) hA hAd hS (fun C H locs hP hS hpo => ?_)
  obtain ⟨he, h60⟩ := hpo
  have hag : ∀ i : Nat, i ≠ 19 ∧ i ≠ 20 ∧ i ≠ 22 ∧ i ≠ 60 ∧ i ≠ 77 ∧ (i < 24 ∨ 64 < i ∨ i = 60 ∨ i = 61) → C i = C0 i := fun i h => (he i (by omega)).trans (hag i h)
  have h0 := (he 0 (by decide)).trans h0
  have h5 := (he 5 (by decide)).trans h5
  have h6 := (he 6 (by decide)).trans h6
  have h7 := (he 7 (by decide)).trans h7
  have h9 := (he 9 (by decide)).trans h9
  have h10 := (he 10 (by decide)).trans h10
  have h11 := (he 11 (by decide)).trans h11
  have h12 := (he 12 (by decide)).trans h12
  have h13 := (he 13 (by decide)).trans h13
  have h14 := (he 14 (by decide)).trans h14
  have h19 := (he 19 (by decide)).trans h19
  have h20 := (he 20 (by decide)).trans h20
  have h21 := (he 21 (by decide)).trans h21
  have h22 := (he 22 (by decide)).trans h22
  have h23 := (he 23 (by decide)).trans h23
  have h77 := (he 77 (by decide)).trans h77
  have hS_ := hS_.ne (fun i h1 h2 => he i (by omega))
  refine lv_aload_n hx hb dX10_lookAgain_21 rfl (lv_at hl 0 rfl) ?_
  refine r_get (own := RX10) (T := TX10) (n := 9) (ci := 10) (v := .ref (ad 77)) hx hb hts nX10 hown hK hP (by omega) h0 rfl 5 (by decide) k4 rfl dX10_lookAgain_22 ?_
  obtain ⟨q4, hq4, hf⟩ := bd_e hf
  refine k_vW (va_runV (C := RX2) (As := []) (rest := []) ⟨hx, hb, hml, hown, hts⟩ (c_X2_doubt (l := l) (sz := H.size)  hN hI h77 hq4) (cwV 0 hts gX10_lookAgain_X2_doubt rfl rfl rfl (by decide +kernel) ⟨Nat.le_of_ble_eq_true rfl, Nat.le_of_ble_eq_true rfl⟩) (preV_of hK hP (by omega) h77 rfl) rfl rfl hl.1 rfl (lv_room (Nat.le_of_ble_eq_true rfl)) dX10_lookAgain_25 ⟨Nat.le_of_ble_eq_true rfl, Nat.le_of_ble_eq_true rfl⟩) hA hAd hS (fun C H locs hP hS hpo => ?_)
  obtain ⟨he, h77⟩ := hpo
  have hag : ∀ i : Nat, i ≠ 19 ∧ i ≠ 20 ∧ i ≠ 22 ∧ i ≠ 60 ∧ i ≠ 77 ∧ (i < 24 ∨ 64 < i ∨ i = 60 ∨ i = 61) → C i = C0 i := fun i h => (he i (by omega)).trans (hag i h)
  have h0 := (he 0 (by decide)).trans h0
  have h5 := (he 5 (by decide)).trans h5
  have h6 := (he 6 (by decide)).trans h6
  have h7 := (he 7 (by decide)).trans h7
  have h9 := (he 9 (by decide)).trans h9
  have h10 := (he 10 (by decide)).trans h10
  have h11 := (he 11 (by decide)).trans h11
  have h12 := (he 12 (by decide)).trans h12
  have h13 := (he 13 (by decide)).trans h13
  have h14 := (he 14 (by decide)).trans h14
  have h19 := (he 19 (by decide)).trans h19
  have h20 := (he 20 (by decide)).trans h20
  have h21 := (he 21 (by decide)).trans h21
  have h22 := (he 22 (by decide)).trans h22
  have h23 := (he 23 (by decide)).trans h23
  have h60 := (he 60 (by decide)).trans h60
  have hS_ := hS_.ne (fun i h1 h2 => he i (by omega))
  obtain rfl := Option.some.inj hf
  rw [← hQ]
  exact e_vW hx hb hr hP hS ⟨hag, h19, h20, h22, h60, h77, hS_⟩ hlocks dX10_lookAgain_28

def LX10_town_24 (q1 : Int32 × Int32 × Int32 × Int32 × (Nat → Int32) × (Nat → Int32)) (ko : Int32 → (Nat → Int32) → (Nat → Int32) → (Nat → Int32) → (Nat → Int32) → Int32 → (Nat → Int32) → (Nat → Int32) → Int32 → (Nat → Int32) → (Nat → Int32) → (Nat → Int32) → (Nat → Int32) → Int32 → (Nat → Int32) → (Nat → Int32) → (Nat → Int32) → Option (Int32 × Int32 × Int32 × Int32 × Int32 × (Nat → Int32) × (Nat → Int32) × (Nat → Int32) × (Nat → Int32) × (Nat → Int32) × (Nat → Int32) × (Nat → Int32) × (Nat → Int32) × (Nat → Int32) × (Nat → Int32) × (Nat → Int32) × (Nat → Int32) × (Nat → Int32) × (Nat → Int32) × (Nat → Int32) × Int32 × Int32 × Int32 × Int32 × (Nat → Int32) × (Nat → Int32) × Int32 × Int32 × Int32 × (Nat → Nat → Int32) × (Nat → Nat → Int32) × (Nat → Int32) × (Nat → Int32))) : Nat → Int32 → (Nat → Int32) → (Nat → Int32) → (Nat → Int32) → (Nat → Int32) → Int32 → (Nat → Int32) → (Nat → Int32) → Int32 → (Nat → Int32) → (Nat → Int32) → (Nat → Int32) → (Nat → Int32) → Int32 → (Nat → Int32) → (Nat → Int32) → (Nat → Int32) → Option (Int32 × Int32 × Int32 × Int32 × Int32 × (Nat → Int32) × (Nat → Int32) × (Nat → Int32) × (Nat → Int32) × (Nat → Int32) × (Nat → Int32) × (Nat → Int32) × (Nat → Int32) × (Nat → Int32) × (Nat → Int32) × (Nat → Int32) × (Nat → Int32) × (Nat → Int32) × (Nat → Int32) × (Nat → Int32) × Int32 × Int32 × Int32 × Int32 × (Nat → Int32) × (Nat → Int32) × Int32 × Int32 × Int32 × (Nat → Nat → Int32) × (Nat → Nat → Int32) × (Nat → Int32) × (Nat → Int32))
  | 0, _, _, _, _, _, _, _, _, _, _, _, _, _, _, _, _, _ => none
  | n + 1, x3, f4, f5, f6, f7, x8, f9, f10, x11, f12, f13, f14, f15, x16, f17, f18, f19 =>
    if q1.2.1 ≤ x3 then
      ko x3 f4 f5 f6 f7 x8 f9 f10 x11 f12 f13 f14 f15 x16 f17 f18 f19
    else
      ri q1.2.2.2.2.1 9 (x3) fun x38 =>
      (f_X7_tell x38 (x3 * 5) q1.2.2.2.2.2 f4 f10 f12 f6 f7 f9 f14 f5 f17 f13 f15 f19 f18 x16 x8 x11).bind fun q40 =>
      lt (x3 + 1 : Int32) fun x41 =>
      LX10_town_24 q1 ko n x41 q40.1 q40.2.2.2.2.2.2.2.1 q40.2.2.2.1 q40.2.2.2.2.1 q40.2.2.2.2.2.2.2.2.2.2.2.2.2.2.1 q40.2.2.2.2.2.1 q40.2.1 q40.2.2.2.2.2.2.2.2.2.2.2.2.2.2.2 q40.2.2.1 q40.2.2.2.2.2.2.2.2.2.1 q40.2.2.2.2.2.2.1 q40.2.2.2.2.2.2.2.2.2.2.1 q40.2.2.2.2.2.2.2.2.2.2.2.2.2.1 q40.2.2.2.2.2.2.2.2.1 q40.2.2.2.2.2.2.2.2.2.2.2.2.1 q40.2.2.2.2.2.2.2.2.2.2.2.1
theorem LX10_town_24_z (q1 : Int32 × Int32 × Int32 × Int32 × (Nat → Int32) × (Nat → Int32)) (ko : Int32 → (Nat → Int32) → (Nat → Int32) → (Nat → Int32) → (Nat → Int32) → Int32 → (Nat → Int32) → (Nat → Int32) → Int32 → (Nat → Int32) → (Nat → Int32) → (Nat → Int32) → (Nat → Int32) → Int32 → (Nat → Int32) → (Nat → Int32) → (Nat → Int32) → Option (Int32 × Int32 × Int32 × Int32 × Int32 × (Nat → Int32) × (Nat → Int32) × (Nat → Int32) × (Nat → Int32) × (Nat → Int32) × (Nat → Int32) × (Nat → Int32) × (Nat → Int32) × (Nat → Int32) × (Nat → Int32) × (Nat → Int32) × (Nat → Int32) × (Nat → Int32) × (Nat → Int32) × (Nat → Int32) × Int32 × Int32 × Int32 × Int32 × (Nat → Int32) × (Nat → Int32) × Int32 × Int32 × Int32 × (Nat → Nat → Int32) × (Nat → Nat → Int32) × (Nat → Int32) × (Nat → Int32))) (x3 : Int32) (f4 : Nat → Int32) (f5 : Nat → Int32) (f6 : Nat → Int32) (f7 : Nat → Int32) (x8 : Int32) (f9 : Nat → Int32) (f10 : Nat → Int32) (x11 : Int32) (f12 : Nat → Int32) (f13 : Nat → Int32) (f14 : Nat → Int32) (f15 : Nat → Int32) (x16 : Int32) (f17 : Nat → Int32) (f18 : Nat → Int32) (f19 : Nat → Int32) : LX10_town_24 q1 ko 0 x3 f4 f5 f6 f7 x8 f9 f10 x11 f12 f13 f14 f15 x16 f17 f18 f19 = none := rfl
theorem LX10_town_24_s (q1 : Int32 × Int32 × Int32 × Int32 × (Nat → Int32) × (Nat → Int32)) (ko : Int32 → (Nat → Int32) → (Nat → Int32) → (Nat → Int32) → (Nat → Int32) → Int32 → (Nat → Int32) → (Nat → Int32) → Int32 → (Nat → Int32) → (Nat → Int32) → (Nat → Int32) → (Nat → Int32) → Int32 → (Nat → Int32) → (Nat → Int32) → (Nat → Int32) → Option (Int32 × Int32 × Int32 × Int32 × Int32 × (Nat → Int32) × (Nat → Int32) × (Nat → Int32) × (Nat → Int32) × (Nat → Int32) × (Nat → Int32) × (Nat → Int32) × (Nat → Int32) × (Nat → Int32) × (Nat → Int32) × (Nat → Int32) × (Nat → Int32) × (Nat → Int32) × (Nat → Int32) × (Nat → Int32) × Int32 × Int32 × Int32 × Int32 × (Nat → Int32) × (Nat → Int32) × Int32 × Int32 × Int32 × (Nat → Nat → Int32) × (Nat → Nat → Int32) × (Nat → Int32) × (Nat → Int32))) (n : Nat) (x3 : Int32) (f4 : Nat → Int32) (f5 : Nat → Int32) (f6 : Nat → Int32) (f7 : Nat → Int32) (x8 : Int32) (f9 : Nat → Int32) (f10 : Nat → Int32) (x11 : Int32) (f12 : Nat → Int32) (f13 : Nat → Int32) (f14 : Nat → Int32) (f15 : Nat → Int32) (x16 : Int32) (f17 : Nat → Int32) (f18 : Nat → Int32) (f19 : Nat → Int32) : LX10_town_24 q1 ko (n + 1) x3 f4 f5 f6 f7 x8 f9 f10 x11 f12 f13 f14 f15 x16 f17 f18 f19 =
    if q1.2.1 ≤ x3 then
      ko x3 f4 f5 f6 f7 x8 f9 f10 x11 f12 f13 f14 f15 x16 f17 f18 f19
    else
      ri q1.2.2.2.2.1 9 (x3) fun x38 =>
      (f_X7_tell x38 (x3 * 5) q1.2.2.2.2.2 f4 f10 f12 f6 f7 f9 f14 f5 f17 f13 f15 f19 f18 x16 x8 x11).bind fun q40 =>
      lt (x3 + 1 : Int32) fun x41 =>
      LX10_town_24 q1 ko n x41 q40.1 q40.2.2.2.2.2.2.2.1 q40.2.2.2.1 q40.2.2.2.2.1 q40.2.2.2.2.2.2.2.2.2.2.2.2.2.2.1 q40.2.2.2.2.2.1 q40.2.1 q40.2.2.2.2.2.2.2.2.2.2.2.2.2.2.2 q40.2.2.1 q40.2.2.2.2.2.2.2.2.2.1 q40.2.2.2.2.2.2.1 q40.2.2.2.2.2.2.2.2.2.2.1 q40.2.2.2.2.2.2.2.2.2.2.2.2.2.1 q40.2.2.2.2.2.2.2.2.1 q40.2.2.2.2.2.2.2.2.2.2.2.2.1 q40.2.2.2.2.2.2.2.2.2.2.2.1 := rfl
def f_X10_town (tx_len : Int32) (tx_lines : Int32) (tx_ts : Int32) (tx_te : Int32) (tx_b : Nat → Int32) (tx_k : Nat → Int32) (tx_n : Nat → Int32) (t_down : Nat → Int32) (t_min : Nat → Int32) (t_pac : Nat → Int32) (t_gone : Nat → Int32) (t_infl : Nat → Int32) (t_lik : Nat → Int32) (t_str : Nat → Int32) (t_from : Nat → Int32) (t_unt : Nat → Int32) (t_rain : Nat → Int32) (t_tell : Nat → Int32) (t_wy : Nat → Int32) (t_wn : Nat → Int32) (t_there : Int32) (t_lift : Int32) (t_none : Int32) (w_src : Int32) (w_over : Nat → Int32) (wa_g : Nat → Int32) (th_k1 : Int32) (th_k2 : Int32) (h_solved : Int32) (sL : Nat → Nat → Int32) (sT : Nat → Nat → Int32) (sF : Nat → Int32) (sU : Nat → Int32) : Option (Int32 × Int32 × Int32 × Int32 × Int32 × (Nat → Int32) × (Nat → Int32) × (Nat → Int32) × (Nat → Int32) × (Nat → Int32) × (Nat → Int32) × (Nat → Int32) × (Nat → Int32) × (Nat → Int32) × (Nat → Int32) × (Nat → Int32) × (Nat → Int32) × (Nat → Int32) × (Nat → Int32) × (Nat → Int32) × Int32 × Int32 × Int32 × Int32 × (Nat → Int32) × (Nat → Int32) × Int32 × Int32 × Int32 × (Nat → Nat → Int32) × (Nat → Nat → Int32) × (Nat → Int32) × (Nat → Int32)) :=
  (f_X5_read tx_len tx_lines tx_ts tx_te tx_b tx_k tx_n).bind fun q1 =>
  if q1.1 = (-1) then
    LX10_town_24 q1 (fun x20 f21 f22 f23 f24 x25 f26 f27 x28 f29 f30 f31 f32 x33 f34 f35 f36 =>
      (f_X5_empty tx_len).bind fun q42 =>
      (f_X10_lookAgain f21 f27 f23 f24 f26 f31 f22 f34 x33 w_src w_over wa_g th_k1 th_k2 h_solved sL sT sF sU).bind fun q43 =>
      some (q1.2.1, q42.2, q1.2.1, q1.2.2.1, q1.2.2.2.1, q1.2.2.2.2.1, q1.2.2.2.2.2, f21, f27, f29, f23, f24, f26, f31, f22, f34, f30, f32, f36, f35, x33, x25, x28, q43.1, q43.2.1, q43.2.2.1, q43.2.2.2.1, q43.2.2.2.2.1, q43.2.2.2.2.2.1, q43.2.2.2.2.2.2.1, q43.2.2.2.2.2.2.2.1, q43.2.2.2.2.2.2.2.2.1, q43.2.2.2.2.2.2.2.2.2)) FU 0 t_down t_from t_gone t_infl t_lift t_lik t_min t_none t_pac t_rain t_str t_tell t_there t_unt t_wn t_wy
  else
    some ((-4), tx_len, q1.2.1, q1.2.2.1, q1.2.2.2.1, q1.2.2.2.2.1, q1.2.2.2.2.2, t_down, t_min, t_pac, t_gone, t_infl, t_lik, t_str, t_from, t_unt, t_rain, t_tell, t_wy, t_wn, t_there, t_lift, t_none, w_src, w_over, wa_g, th_k1, th_k2, h_solved, sL, sT, sF, sU)
abbrev rmX10_town : Room := { frames := 8, cells := 0, slots := 0, locals := 177 }
set_option maxHeartbeats 4000000 in
set_option maxRecDepth 100000 in
theorem c_X10_town {l : Launch} {adK adV tb : Nat → Nat} {D : va_G} {g : Nat → ClassId} {N : Nat} {ad : Nat → Nat} {C : Nat → va_E} {sz : Nat} {tx_len : Int32} {tx_lines : Int32} {tx_ts : Int32} {tx_te : Int32} {tx_b : Nat → Int32} {tx_k : Nat → Int32} {tx_n : Nat → Int32} {t_there : Int32} {t_lift : Int32} {t_none : Int32} {t_down : Nat → Int32} {t_min : Nat → Int32} {t_pac : Nat → Int32} {t_gone : Nat → Int32} {t_infl : Nat → Int32} {t_lik : Nat → Int32} {t_str : Nat → Int32} {t_from : Nat → Int32} {t_unt : Nat → Int32} {t_rain : Nat → Int32} {t_tell : Nat → Int32} {t_wy : Nat → Int32} {t_wn : Nat → Int32} {w_src : Int32} {w_over : Nat → Int32} {wa_g : Nat → Int32} {th_none : Int64} {th_all1 : Int64} {th_all2 : Int64} {th_k1 : Int32} {th_k2 : Int32} {th_size : Int32} {h_solved : Int32} {sL : Nat → Nat → Int32} {sT : Nat → Nat → Int32} {sF : Nat → Int32} {sU : Nat → Int32}  {rr : Int32 × Int32 × Int32 × Int32 × Int32 × (Nat → Int32) × (Nat → Int32) × (Nat → Int32) × (Nat → Int32) × (Nat → Int32) × (Nat → Int32) × (Nat → Int32) × (Nat → Int32) × (Nat → Int32) × (Nat → Int32) × (Nat → Int32) × (Nat → Int32) × (Nat → Int32) × (Nat → Int32) × (Nat → Int32) × Int32 × Int32 × Int32 × Int32 × (Nat → Int32) × (Nat → Int32) × Int32 × Int32 × Int32 × (Nat → Nat → Int32) × (Nat → Nat → Int32) × (Nat → Int32) × (Nat → Int32)} (hN : 86 ≤ N) (hI : Inj N ad) (h0 : C 0 = .inr (10, [.ref (ad 1), .ref (ad 5), .ref (ad 19), .ref (ad 21), .ref (ad 60), .ref (ad 77), .ref (ad 81), .ref (ad 84), .ref (ad 85)])) (h1 : C 1 = .inr (5, [.ref (ad 2), .ref (ad 3), .ref (ad 4), .int tx_len, .int tx_lines, .int tx_ts, .int tx_te])) (h2 : C 2 = aI g 200 tx_b) (h3 : C 3 = aI g 9 tx_k) (h4 : C 4 = aI g 45 tx_n) (h5 : C 5 = .inr (7, [.ref (ad 6), .ref (ad 7), .ref (ad 8), .ref (ad 9), .ref (ad 10), .ref (ad 11), .ref (ad 12), .ref (ad 13), .ref (ad 14), .ref (ad 15), .ref (ad 16), .ref (ad 17), .ref (ad 18), .int t_there, .int t_lift, .int t_none])) (h6 : C 6 = aI g 12 t_down) (h7 : C 7 = aI g 12 t_min) (h8 : C 8 = aI g 12 t_pac) (h9 : C 9 = aI g 12 t_gone) (h10 : C 10 = aI g 12 t_infl) (h11 : C 11 = aI g 12 t_lik) (h12 : C 12 = aI g 12 t_str) (h13 : C 13 = aI g 12 t_from) (h14 : C 14 = aI g 12 t_unt) (h15 : C 15 = aI g 24 t_rain) (h16 : C 16 = aI g 4 t_tell) (h17 : C 17 = aI g 4 t_wy) (h18 : C 18 = aI g 4 t_wn) (h19 : C 19 = .inr (9, [.ref (ad 5), .ref (ad 20), .int w_src])) (h20 : C 20 = aI g 12 w_over) (h21 : C 21 = .inr (8, [.ref (ad 5), .ref (ad 19), .ref (ad 22), .ref (ad 23)])) (h22 : C 22 = aI g 12 wa_g) (h23 : C 23 = aS g 12 (fun i => if i < 12 then some (ad (24 + 3 * i)) else none)) (h60 : C 60 = .inr (6, [.ref (ad 5), .ref (ad 19), .ref (ad 21), .ref (ad 61), .ref (ad 62), .ref (ad 65), .ref (ad 66), .long th_none, .long th_all1, .long th_all2, .int th_k1, .int th_k2, .int th_size])) (h77 : C 77 = .inr (2, [.ref (ad 5), .ref (ad 19), .ref (ad 78), .ref (ad 79), .ref (ad 80), .int h_solved])) (hS_ : PoolS g ad C sL sT sF sU) (hf : f_X10_town tx_len tx_lines tx_ts tx_te tx_b tx_k tx_n t_down t_min t_pac t_gone t_infl t_lik t_str t_from t_unt t_rain t_tell t_wy t_wn t_there t_lift t_none w_src w_over wa_g th_k1 th_k2 h_solved sL sT sF sU = some rr) : Met l yX10_town wsX10_town rmX10_town (PcT D g N ad C adK adV tb sz [.ref (ad 0)]) (QiW D N ad sz tP rr.1 (fun C' => (∀ i : Nat, i ≠ 1 ∧ i ≠ 10 ∧ i ≠ 11 ∧ i ≠ 12 ∧ i ≠ 13 ∧ i ≠ 14 ∧ i ≠ 15 ∧ i ≠ 16 ∧ i ≠ 17 ∧ i ≠ 18 ∧ i ≠ 19 ∧ i ≠ 20 ∧ i ≠ 22 ∧ i ≠ 3 ∧ i ≠ 4 ∧ i ≠ 5 ∧ i ≠ 6 ∧ i ≠ 60 ∧ i ≠ 7 ∧ i ≠ 77 ∧ i ≠ 8 ∧ i ≠ 9 ∧ (i < 24 ∨ 64 < i ∨ i = 60 ∨ i = 61) → C' i = C i) ∧ (C' 1 = .inr (5, [.ref (ad 2), .ref (ad 3), .ref (ad 4), .int rr.2.1, .int rr.2.2.1, .int rr.2.2.2.1, .int rr.2.2.2.2.1])) ∧ (C' 10 = aI g 12 rr.2.2.2.2.2.2.2.2.2.2.2.1) ∧ (C' 11 = aI g 12 rr.2.2.2.2.2.2.2.2.2.2.2.2.1) ∧ (C' 12 = aI g 12 rr.2.2.2.2.2.2.2.2.2.2.2.2.2.1) ∧ (C' 13 = aI g 12 rr.2.2.2.2.2.2.2.2.2.2.2.2.2.2.1) ∧ (C' 14 = aI g 12 rr.2.2.2.2.2.2.2.2.2.2.2.2.2.2.2.1) ∧ (C' 15 = aI g 24 rr.2.2.2.2.2.2.2.2.2.2.2.2.2.2.2.2.1) ∧ (C' 16 = aI g 4 rr.2.2.2.2.2.2.2.2.2.2.2.2.2.2.2.2.2.1) ∧ (C' 17 = aI g 4 rr.2.2.2.2.2.2.2.2.2.2.2.2.2.2.2.2.2.2.1) ∧ (C' 18 = aI g 4 rr.2.2.2.2.2.2.2.2.2.2.2.2.2.2.2.2.2.2.2.1) ∧ (C' 19 = .inr (9, [.ref (ad 5), .ref (ad 20), .int rr.2.2.2.2.2.2.2.2.2.2.2.2.2.2.2.2.2.2.2.2.2.2.2.1])) ∧ (C' 20 = aI g 12 rr.2.2.2.2.2.2.2.2.2.2.2.2.2.2.2.2.2.2.2.2.2.2.2.2.1) ∧ (C' 22 = aI g 12 rr.2.2.2.2.2.2.2.2.2.2.2.2.2.2.2.2.2.2.2.2.2.2.2.2.2.1) ∧ (C' 3 = aI g 9 rr.2.2.2.2.2.1) ∧ (C' 4 = aI g 45 rr.2.2.2.2.2.2.1) ∧ (C' 5 = .inr (7, [.ref (ad 6), .ref (ad 7), .ref (ad 8), .ref (ad 9), .ref (ad 10), .ref (ad 11), .ref (ad 12), .ref (ad 13), .ref (ad 14), .ref (ad 15), .ref (ad 16), .ref (ad 17), .ref (ad 18), .int rr.2.2.2.2.2.2.2.2.2.2.2.2.2.2.2.2.2.2.2.2.1, .int rr.2.2.2.2.2.2.2.2.2.2.2.2.2.2.2.2.2.2.2.2.2.1, .int rr.2.2.2.2.2.2.2.2.2.2.2.2.2.2.2.2.2.2.2.2.2.2.1])) ∧ (C' 6 = aI g 12 rr.2.2.2.2.2.2.2.1) ∧ (C' 60 = .inr (6, [.ref (ad 5), .ref (ad 19), .ref (ad 21), .ref (ad 61), .ref (ad 62), .ref (ad 65), .ref (ad 66), .long th_none, .long th_all1, .long th_all2, .int rr.2.2.2.2.2.2.2.2.2.2.2.2.2.2.2.2.2.2.2.2.2.2.2.2.2.2.1, .int rr.2.2.2.2.2.2.2.2.2.2.2.2.2.2.2.2.2.2.2.2.2.2.2.2.2.2.2.1, .int th_size])) ∧ (C' 7 = aI g 12 rr.2.2.2.2.2.2.2.2.1) ∧ (C' 77 = .inr (2, [.ref (ad 5), .ref (ad 19), .ref (ad 78), .ref (ad 79), .ref (ad 80), .int rr.2.2.2.2.2.2.2.2.2.2.2.2.2.2.2.2.2.2.2.2.2.2.2.2.2.2.2.2.1])) ∧ (C' 8 = aI g 12 rr.2.2.2.2.2.2.2.2.2.1) ∧ (C' 9 = aI g 12 rr.2.2.2.2.2.2.2.2.2.2.1) ∧ (PoolS g ad C' rr.2.2.2.2.2.2.2.2.2.2.2.2.2.2.2.2.2.2.2.2.2.2.2.2.2.2.2.2.2.1 rr.2.2.2.2.2.2.2.2.2.2.2.2.2.2.2.2.2.2.2.2.2.2.2.2.2.2.2.2.2.2.1 rr.2.2.2.2.2.2.2.2.2.2.2.2.2.2.2.2.2.2.2.2.2.2.2.2.2.2.2.2.2.2.2.1 rr.2.2.2.2.2.2.2.2.2.2.2.2.2.2.2.2.2.2.2.2.2.2.2.2.2.2.2.2.2.2.2.2))) 0 0 (Aw N ad sz) := by
  refine Met.ofW (cc := cX10_town) (maxL := 3) (ret := (some .int)) (by decide) rfl ?_
  intro p e s m args below meth c s₁ B hml hv
  obtain ⟨hav, hsz, hK, hP, hSDw⟩ := hv
  subst hsz
  have hx := B.exec
  have hb := B.bytes
  have hr := B.returns
  have hts := atoms_spec (ws := wsX10_town) B.pre
  have hown : s.vm.findClass RX10 = some m.cls := findClass_of_methodNamed B.named
  have hlocks := B.notSynchronized
  generalize hQ : MQ below (QiW D N ad s.heap.size tP rr.1 (fun C' => (∀ i : Nat, i ≠ 1 ∧ i ≠ 10 ∧ i ≠ 11 ∧ i ≠ 12 ∧ i ≠ 13 ∧ i ≠ 14 ∧ i ≠ 15 ∧ i ≠ 16 ∧ i ≠ 17 ∧ i ≠ 18 ∧ i ≠ 19 ∧ i ≠ 20 ∧ i ≠ 22 ∧ i ≠ 3 ∧ i ≠ 4 ∧ i ≠ 5 ∧ i ≠ 6 ∧ i ≠ 60 ∧ i ≠ 7 ∧ i ≠ 77 ∧ i ≠ 8 ∧ i ≠ 9 ∧ (i < 24 ∨ 64 < i ∨ i = 60 ∨ i = 61) → C' i = C i) ∧ (C' 1 = .inr (5, [.ref (ad 2), .ref (ad 3), .ref (ad 4), .int rr.2.1, .int rr.2.2.1, .int rr.2.2.2.1, .int rr.2.2.2.2.1])) ∧ (C' 10 = aI g 12 rr.2.2.2.2.2.2.2.2.2.2.2.1) ∧ (C' 11 = aI g 12 rr.2.2.2.2.2.2.2.2.2.2.2.2.1) ∧ (C' 12 = aI g 12 rr.2.2.2.2.2.2.2.2.2.2.2.2.2.1) ∧ (C' 13 = aI g 12 rr.2.2.2.2.2.2.2.2.2.2.2.2.2.2.1) ∧ (C' 14 = aI g 12 rr.2.2.2.2.2.2.2.2.2.2.2.2.2.2.2.1) ∧ (C' 15 = aI g 24 rr.2.2.2.2.2.2.2.2.2.2.2.2.2.2.2.2.1) ∧ (C' 16 = aI g 4 rr.2.2.2.2.2.2.2.2.2.2.2.2.2.2.2.2.2.1) ∧ (C' 17 = aI g 4 rr.2.2.2.2.2.2.2.2.2.2.2.2.2.2.2.2.2.2.1) ∧ (C' 18 = aI g 4 rr.2.2.2.2.2.2.2.2.2.2.2.2.2.2.2.2.2.2.2.1) ∧ (C' 19 = .inr (9, [.ref (ad 5), .ref (ad 20), .int rr.2.2.2.2.2.2.2.2.2.2.2.2.2.2.2.2.2.2.2.2.2.2.2.1])) ∧ (C' 20 = aI g 12 rr.2.2.2.2.2.2.2.2.2.2.2.2.2.2.2.2.2.2.2.2.2.2.2.2.1) ∧ (C' 22 = aI g 12 rr.2.2.2.2.2.2.2.2.2.2.2.2.2.2.2.2.2.2.2.2.2.2.2.2.2.1) ∧ (C' 3 = aI g 9 rr.2.2.2.2.2.1) ∧ (C' 4 = aI g 45 rr.2.2.2.2.2.2.1) ∧ (C' 5 = .inr (7, [.ref (ad 6), .ref (ad 7), .ref (ad 8), .ref (ad 9), .ref (ad 10), .ref (ad 11), .ref (ad 12), .ref (ad 13), .ref (ad 14), .ref (ad 15), .ref (ad 16), .ref (ad 17), .ref (ad 18), .int rr.2.2.2.2.2.2.2.2.2.2.2.2.2.2.2.2.2.2.2.2.1, .int rr.2.2.2.2.2.2.2.2.2.2.2.2.2.2.2.2.2.2.2.2.2.1, .int rr.2.2.2.2.2.2.2.2.2.2.2.2.2.2.2.2.2.2.2.2.2.2.1])) ∧ (C' 6 = aI g 12 rr.2.2.2.2.2.2.2.1) ∧ (C' 60 = .inr (6, [.ref (ad 5), .ref (ad 19), .ref (ad 21), .ref (ad 61), .ref (ad 62), .ref (ad 65), .ref (ad 66), .long th_none, .long th_all1, .long th_all2, .int rr.2.2.2.2.2.2.2.2.2.2.2.2.2.2.2.2.2.2.2.2.2.2.2.2.2.2.1, .int rr.2.2.2.2.2.2.2.2.2.2.2.2.2.2.2.2.2.2.2.2.2.2.2.2.2.2.2.1, .int th_size])) ∧ (C' 7 = aI g 12 rr.2.2.2.2.2.2.2.2.1) ∧ (C' 77 = .inr (2, [.ref (ad 5), .ref (ad 19), .ref (ad 78), .ref (ad 79), .ref (ad 80), .int rr.2.2.2.2.2.2.2.2.2.2.2.2.2.2.2.2.2.2.2.2.2.2.2.2.2.2.2.2.1])) ∧ (C' 8 = aI g 12 rr.2.2.2.2.2.2.2.2.2.1) ∧ (C' 9 = aI g 12 rr.2.2.2.2.2.2.2.2.2.2.1) ∧ (PoolS g ad C' rr.2.2.2.2.2.2.2.2.2.2.2.2.2.2.2.2.2.2.2.2.2.2.2.2.2.2.2.2.2.1 rr.2.2.2.2.2.2.2.2.2.2.2.2.2.2.2.2.2.2.2.2.2.2.2.2.2.2.2.2.2.2.1 rr.2.2.2.2.2.2.2.2.2.2.2.2.2.2.2.2.2.2.2.2.2.2.2.2.2.2.2.2.2.2.2.1 rr.2.2.2.2.2.2.2.2.2.2.2.2.2.2.2.2.2.2.2.2.2.2.2.2.2.2.2.2.2.2.2.2))) args s 0 0 (Aw N ad s.heap.size) = QQ
  have hS : va_S (Aw N ad s.heap.size) s.heap s.heap [] := va_S.rf
  have hA : ∀ q, s.heap.size ≤ q → (Aw N ad s.heap.size) q := fun q h => Or.inr h
  have hSD : SD adK adV tb (Aw N ad s.heap.size) s s.heap := hSDw
  have hAB : ∀ q, (Aw N ad s.heap.size) q → Aw N ad s.heap.size q := fun q h => h
  have hAd : ∀ j : Nat, j < N → (Aw N ad s.heap.size) (ad j) := fun j h => Or.inl ⟨j, h, rfl⟩
  obtain ⟨C0, hC0⟩ : ∃ C0 : Nat → va_E, C0 = C := ⟨_, rfl⟩
  have hag : ∀ i : Nat, i ≠ 1 ∧ i ≠ 10 ∧ i ≠ 11 ∧ i ≠ 12 ∧ i ≠ 13 ∧ i ≠ 14 ∧ i ≠ 15 ∧ i ≠ 16 ∧ i ≠ 17 ∧ i ≠ 18 ∧ i ≠ 19 ∧ i ≠ 20 ∧ i ≠ 22 ∧ i ≠ 3 ∧ i ≠ 4 ∧ i ≠ 5 ∧ i ≠ 6 ∧ i ≠ 60 ∧ i ≠ 7 ∧ i ≠ 77 ∧ i ≠ 8 ∧ i ≠ 9 ∧ (i < 24 ∨ 64 < i ∨ i = 60 ∨ i = 61) → C i = C0 i := fun i _ => by rw [hC0]
  rw [← hC0] at hQ
  have k0 := hts (.fieldLink RX10 10 "UpDrain" "text" "LUpDrain$Text;") (List.mem_of_getElem? (i := 1) rfl)
  have nX10 : ∀ w ∈ u_ws RX10 TX10 9, w ∈ wsX10_town := fun _ h => List.mem_cons_of_mem _ (List.mem_append_left _ (List.mem_append_left _ (List.mem_append_left _ (List.mem_append_left _ (List.mem_append_left _ (List.mem_append_left _ (List.mem_append_left _ (List.mem_append_right _ h))))))))
  have k2 := nf_3 (A := args) hK
  have nX5 : ∀ w ∈ u_ws RX5 TX5 7, w ∈ wsX10_town := fun _ h => List.mem_cons_of_mem _ (List.mem_append_left _ (List.mem_append_left _ (List.mem_append_left _ (List.mem_append_left _ (List.mem_append_left _ (List.mem_append_left _ (List.mem_append_right _ h)))))))
  have k4 := hts (.fieldLink RX10 19 "UpDrain" "plan" "LUpDrain$Town;") (List.mem_of_getElem? (i := 2) rfl)
  have k5 := nf_0 (A := args) hK
  have k6 := nf_1 (A := args) hK
  have hE := lg_entry_eq m [.ref (ad 0)] 3
  rw [← hav] at hE
  rw [hE]
  have hl := lv_entry [.ref (ad 0)] (n := 3) (Nat.le_of_ble_eq_true rfl)
  generalize (lg_sl [.ref (ad 0)] ++ List.replicate (3 - (lg_sl [.ref (ad 0)]).length) Slot.unset).toArray = ls at hl ⊢
  have hl : lv_has ls 3 [(0, .ref (ad 0))] := hl
  clear hE
  unfold f_X10_town at hf
  suffices hgo : ∀ (H : Heap) (locs : List Loc), va_P D vwCl (wd N ad C) H → va_S (Aw N ad s.heap.size) s.heap H locs → W p l e (headSpec wsX10_town rmX10_town).room s m args below meth c H locs 0 0 QQ (F0 m 0 ls []) from hgo s.heap [] hP hS
  clear hS hP
  intro H locs hP hS
  refine lv_aload_n hx hb dX10_town_0 rfl (lv_at hl 0 rfl) ?_
  refine r_get (own := RX10) (T := TX10) (n := 9) (ci := 10) (v := .ref (ad 1)) hx hb hts nX10 hown hK hP (by omega) h0 rfl 0 (by decide) k0 rfl dX10_town_1 ?_
  obtain ⟨q1, hq1, hf⟩ := bd_e hf
  refine k_iW (va_runV (C := RX5) (As := []) (rest := []) ⟨hx, hb, hml, hown, hts⟩ (c_X5_read (l := l) (sz := H.size) (adK := adK) (adV := adV) (tb := tb) hN hI h1 h2 h3 h4 hq1) (cwV 0 hts gX10_town_X5_read rfl rfl rfl (by decide +kernel) ⟨Nat.le_of_ble_eq_true rfl, Nat.le_of_ble_eq_true rfl⟩) (preT_of hK hSDw hS hAB hP (by omega) h1 rfl) rfl rfl hl.1 rfl (lv_room (Nat.le_of_ble_eq_true rfl)) dX10_town_4 ⟨Nat.le_of_ble_eq_true rfl, Nat.le_of_ble_eq_true rfl⟩) hA hAd hS (fun C H locs hP hS hpo hbz_q1 => ?_)
  obtain ⟨he, h1, h3, h4⟩ := hpo
  have hag : ∀ i : Nat, i ≠ 1 ∧ i ≠ 10 ∧ i ≠ 11 ∧ i ≠ 12 ∧ i ≠ 13 ∧ i ≠ 14 ∧ i ≠ 15 ∧ i ≠ 16 ∧ i ≠ 17 ∧ i ≠ 18 ∧ i ≠ 19 ∧ i ≠ 20 ∧ i ≠ 22 ∧ i ≠ 3 ∧ i ≠ 4 ∧ i ≠ 5 ∧ i ≠ 6 ∧ i ≠ 60 ∧ i ≠ 7 ∧ i ≠ 77 ∧ i ≠ 8 ∧ i ≠ 9 ∧ (i < 24 ∨ 64 < i ∨ i = 60 ∨ i = 61) → C i = C0 i := fun i h => (he i (by omega)).trans (hag i h)
  have h0 := (he 0 (by decide)).trans h0
  have h2 := (he 2 (by decide)).trans h2
  have h5 := (he 5 (by decide)).trans h5
  have h6 := (he 6 (by decide)).trans h6
  have h7 := (he 7 (by decide)).trans h7
  have h8 := (he 8 (by decide)).trans h8
  have h9 := (he 9 (by decide)).trans h9
  have h10 := (he 10 (by decide)).trans h10
  have h11 := (he 11 (by decide)).trans h11
  have h12 := (he 12 (by decide)).trans h12
  have h13 := (he 13 (by decide)).trans h13
  have h14 := (he 14 (by decide)).trans h14
  have h15 := (he 15 (by decide)).trans h15
  have h16 := (he 16 (by decide)).trans h16
  have h17 := (he 17 (by decide)).trans h17
  have h18 := (he 18 (by decide)).trans h18
  have h19 := (he 19 (by decide)).trans h19
  have h20 := (he 20 (by decide)).trans h20
  have h21 := (he 21 (by decide)).trans h21
  have h22 := (he 22 (by decide)).trans h22
  have h23 := (he 23 (by decide)).trans h23
  have h60 := (he 60 (by decide)).trans h60
  have h77 := (he 77 (by decide)).trans h77
  have hS_ := hS_.ne (fun i h1 h2 => he i (by omega))
  refine lv_iconst (v := (-1)) hx hb dX10_town_7 (by decide) ?_
  refine lv_icmp_eq (tgt := 14) hx hb dX10_town_8 (by decide) (fun c2 => ?_) (fun c2 => ?_)
  · have hf := it_e c2 hf
    refine lv_aload_n hx hb dX10_town_14 rfl (lv_at hl 0 rfl) ?_
    refine r_get (own := RX10) (T := TX10) (n := 9) (ci := 10) (v := .ref (ad 1)) hx hb hts nX10 hown hK hP (by omega) h0 rfl 0 (by decide) k0 rfl dX10_town_15 ?_
    refine r_getN (own := RX10) (T := TX5) (n := 7) (ci := 5) (v := .int q1.2.1) hx hb hts nX5 hown hK hP (by omega) h1 rfl 4 (by decide) k2 rfl dX10_town_18 ?_
    refine lv_istore_n (lv' := [(1, .int q1.2.1), (0, .ref (ad 0))]) hx hb dX10_town_21 rfl hl (by decide) rfl (fun ls hl => ?_)
    refine lv_iconst (v := 0) hx hb dX10_town_22 (by decide) ?_
    refine lv_istore_n (lv' := [(2, .int 0), (1, .int q1.2.1), (0, .ref (ad 0))]) hx hb dX10_town_23 rfl hl (by decide) rfl (fun ls hl => ?_)
    have key24 : ∀ (ko : Int32 → (Nat → Int32) → (Nat → Int32) → (Nat → Int32) → (Nat → Int32) → Int32 → (Nat → Int32) → (Nat → Int32) → Int32 → (Nat → Int32) → (Nat → Int32) → (Nat → Int32) → (Nat → Int32) → Int32 → (Nat → Int32) → (Nat → Int32) → (Nat → Int32) → Option (Int32 × Int32 × Int32 × Int32 × Int32 × (Nat → Int32) × (Nat → Int32) × (Nat → Int32) × (Nat → Int32) × (Nat → Int32) × (Nat → Int32) × (Nat → Int32) × (Nat → Int32) × (Nat → Int32) × (Nat → Int32) × (Nat → Int32) × (Nat → Int32) × (Nat → Int32) × (Nat → Int32) × (Nat → Int32) × Int32 × Int32 × Int32 × Int32 × (Nat → Int32) × (Nat → Int32) × Int32 × Int32 × Int32 × (Nat → Nat → Int32) × (Nat → Nat → Int32) × (Nat → Int32) × (Nat → Int32))), (∀ (x20 : Int32) (f21 : Nat → Int32) (f22 : Nat → Int32) (f23 : Nat → Int32) (f24 : Nat → Int32) (x25 : Int32) (f26 : Nat → Int32) (f27 : Nat → Int32) (x28 : Int32) (f29 : Nat → Int32) (f30 : Nat → Int32) (f31 : Nat → Int32) (f32 : Nat → Int32) (x33 : Int32) (f34 : Nat → Int32) (f35 : Nat → Int32) (f36 : Nat → Int32) (C : Nat → va_E) (H : Heap) (locs : List Loc) (ls : Array Slot), va_P D vwCl (wd N ad C) H → va_S (Aw N ad s.heap.size) s.heap H locs → (∀ i : Nat, i ≠ 1 ∧ i ≠ 10 ∧ i ≠ 11 ∧ i ≠ 12 ∧ i ≠ 13 ∧ i ≠ 14 ∧ i ≠ 15 ∧ i ≠ 16 ∧ i ≠ 17 ∧ i ≠ 18 ∧ i ≠ 19 ∧ i ≠ 20 ∧ i ≠ 22 ∧ i ≠ 3 ∧ i ≠ 4 ∧ i ≠ 5 ∧ i ≠ 6 ∧ i ≠ 60 ∧ i ≠ 7 ∧ i ≠ 77 ∧ i ≠ 8 ∧ i ≠ 9 ∧ (i < 24 ∨ 64 < i ∨ i = 60 ∨ i = 61) → C i = C0 i) → C 0 = .inr (10, [.ref (ad 1), .ref (ad 5), .ref (ad 19), .ref (ad 21), .ref (ad 60), .ref (ad 77), .ref (ad 81), .ref (ad 84), .ref (ad 85)]) → C 1 = .inr (5, [.ref (ad 2), .ref (ad 3), .ref (ad 4), .int tx_len, .int q1.2.1, .int q1.2.2.1, .int q1.2.2.2.1]) → C 2 = aI g 200 tx_b → C 3 = aI g 9 q1.2.2.2.2.1 → C 4 = aI g 45 q1.2.2.2.2.2 → C 5 = .inr (7, [.ref (ad 6), .ref (ad 7), .ref (ad 8), .ref (ad 9), .ref (ad 10), .ref (ad 11), .ref (ad 12), .ref (ad 13), .ref (ad 14), .ref (ad 15), .ref (ad 16), .ref (ad 17), .ref (ad 18), .int x33, .int x25, .int x28]) → C 6 = aI g 12 f21 → C 7 = aI g 12 f27 → C 8 = aI g 12 f29 → C 9 = aI g 12 f23 → C 10 = aI g 12 f24 → C 11 = aI g 12 f26 → C 12 = aI g 12 f31 → C 13 = aI g 12 f22 → C 14 = aI g 12 f34 → C 15 = aI g 24 f30 → C 16 = aI g 4 f32 → C 17 = aI g 4 f36 → C 18 = aI g 4 f35 → C 19 = .inr (9, [.ref (ad 5), .ref (ad 20), .int w_src]) → C 20 = aI g 12 w_over → C 21 = .inr (8, [.ref (ad 5), .ref (ad 19), .ref (ad 22), .ref (ad 23)]) → C 22 = aI g 12 wa_g → C 23 = aS g 12 (fun i => if i < 12 then some (ad (24 + 3 * i)) else none) → C 60 = .inr (6, [.ref (ad 5), .ref (ad 19), .ref (ad 21), .ref (ad 61), .ref (ad 62), .ref (ad 65), .ref (ad 66), .long th_none, .long th_all1, .long th_all2, .int th_k1, .int th_k2, .int th_size]) → C 77 = .inr (2, [.ref (ad 5), .ref (ad 19), .ref (ad 78), .ref (ad 79), .ref (ad 80), .int h_solved]) → PoolS g ad C sL sT sF sU → lv_has ls 3 [(0, .ref (ad 0)), (1, .int q1.2.1), (2, .int x20)] → ko x20 f21 f22 f23 f24 x25 f26 f27 x28 f29 f30 f31 f32 x33 f34 f35 f36 = some rr → W p l e (headSpec wsX10_town rmX10_town).room s m args below meth c H locs 0 0 QQ (F0 m 61 ls [])) → ∀ (n : Nat) (x3 : Int32) (f4 : Nat → Int32) (f5 : Nat → Int32) (f6 : Nat → Int32) (f7 : Nat → Int32) (x8 : Int32) (f9 : Nat → Int32) (f10 : Nat → Int32) (x11 : Int32) (f12 : Nat → Int32) (f13 : Nat → Int32) (f14 : Nat → Int32) (f15 : Nat → Int32) (x16 : Int32) (f17 : Nat → Int32) (f18 : Nat → Int32) (f19 : Nat → Int32) (C : Nat → va_E) (H : Heap) (locs : List Loc) (ls : Array Slot), va_P D vwCl (wd N ad C) H → va_S (Aw N ad s.heap.size) s.heap H locs → (∀ i : Nat, i ≠ 1 ∧ i ≠ 10 ∧ i ≠ 11 ∧ i ≠ 12 ∧ i ≠ 13 ∧ i ≠ 14 ∧ i ≠ 15 ∧ i ≠ 16 ∧ i ≠ 17 ∧ i ≠ 18 ∧ i ≠ 19 ∧ i ≠ 20 ∧ i ≠ 22 ∧ i ≠ 3 ∧ i ≠ 4 ∧ i ≠ 5 ∧ i ≠ 6 ∧ i ≠ 60 ∧ i ≠ 7 ∧ i ≠ 77 ∧ i ≠ 8 ∧ i ≠ 9 ∧ (i < 24 ∨ 64 < i ∨ i = 60 ∨ i = 61) → C i = C0 i) → C 0 = .inr (10, [.ref (ad 1), .ref (ad 5), .ref (ad 19), .ref (ad 21), .ref (ad 60), .ref (ad 77), .ref (ad 81), .ref (ad 84), .ref (ad 85)]) → C 1 = .inr (5, [.ref (ad 2), .ref (ad 3), .ref (ad 4), .int tx_len, .int q1.2.1, .int q1.2.2.1, .int q1.2.2.2.1]) → C 2 = aI g 200 tx_b → C 3 = aI g 9 q1.2.2.2.2.1 → C 4 = aI g 45 q1.2.2.2.2.2 → C 5 = .inr (7, [.ref (ad 6), .ref (ad 7), .ref (ad 8), .ref (ad 9), .ref (ad 10), .ref (ad 11), .ref (ad 12), .ref (ad 13), .ref (ad 14), .ref (ad 15), .ref (ad 16), .ref (ad 17), .ref (ad 18), .int x16, .int x8, .int x11]) → C 6 = aI g 12 f4 → C 7 = aI g 12 f10 → C 8 = aI g 12 f12 → C 9 = aI g 12 f6 → C 10 = aI g 12 f7 → C 11 = aI g 12 f9 → C 12 = aI g 12 f14 → C 13 = aI g 12 f5 → C 14 = aI g 12 f17 → C 15 = aI g 24 f13 → C 16 = aI g 4 f15 → C 17 = aI g 4 f19 → C 18 = aI g 4 f18 → C 19 = .inr (9, [.ref (ad 5), .ref (ad 20), .int w_src]) → C 20 = aI g 12 w_over → C 21 = .inr (8, [.ref (ad 5), .ref (ad 19), .ref (ad 22), .ref (ad 23)]) → C 22 = aI g 12 wa_g → C 23 = aS g 12 (fun i => if i < 12 then some (ad (24 + 3 * i)) else none) → C 60 = .inr (6, [.ref (ad 5), .ref (ad 19), .ref (ad 21), .ref (ad 61), .ref (ad 62), .ref (ad 65), .ref (ad 66), .long th_none, .long th_all1, .long th_all2, .int th_k1, .int th_k2, .int th_size]) → C 77 = .inr (2, [.ref (ad 5), .ref (ad 19), .ref (ad 78), .ref (ad 79), .ref (ad 80), .int h_solved]) → PoolS g ad C sL sT sF sU → lv_has ls 3 [(0, .ref (ad 0)), (1, .int q1.2.1), (2, .int x3)] → LX10_town_24 q1 ko n x3 f4 f5 f6 f7 x8 f9 f10 x11 f12 f13 f14 f15 x16 f17 f18 f19 = some rr → W p l e (headSpec wsX10_town rmX10_town).room s m args below meth c H locs 0 0 QQ (F0 m 24 ls []) := by
      intro ko hko n
      induction n with
      | zero =>
        intro x3 f4 f5 f6 f7 x8 f9 f10 x11 f12 f13 f14 f15 x16 f17 f18 f19 C H locs ls hP hS hag h0 h1 h2 h3 h4 h5 h6 h7 h8 h9 h10 h11 h12 h13 h14 h15 h16 h17 h18 h19 h20 h21 h22 h23 h60 h77 hS_ hl hf
        rw [LX10_town_24_z] at hf
        cases hf
      | succ n ih =>
        intro x3 f4 f5 f6 f7 x8 f9 f10 x11 f12 f13 f14 f15 x16 f17 f18 f19 C H locs ls hP hS hag h0 h1 h2 h3 h4 h5 h6 h7 h8 h9 h10 h11 h12 h13 h14 h15 h16 h17 h18 h19 h20 h21 h22 h23 h60 h77 hS_ hl hf
        rw [LX10_town_24_s] at hf
        refine lv_iload_n hx hb dX10_town_24 rfl (lv_at hl 2 rfl) ?_
        refine lv_iload_n hx hb dX10_town_25 rfl (lv_at hl 1 rfl) ?_
        refine lv_icmp_ge (tgt := 61) hx hb dX10_town_26 (by decide) (fun c37 => ?_) (fun c37 => ?_)
        · have hf := it_e c37 hf
          exact hko x3 f4 f5 f6 f7 x8 f9 f10 x11 f12 f13 f14 f15 x16 f17 f18 f19 C H locs ls hP hS hag h0 h1 h2 h3 h4 h5 h6 h7 h8 h9 h10 h11 h12 h13 h14 h15 h16 h17 h18 h19 h20 h21 h22 h23 h60 h77 hS_ (lv_sub hl [0, 1, 2] rfl) hf
        · have hf := ie_e c37 hf
          refine lv_aload_n hx hb dX10_town_29 rfl (lv_at hl 0 rfl) ?_
          refine r_get (own := RX10) (T := TX10) (n := 9) (ci := 10) (v := .ref (ad 5)) hx hb hts nX10 hown hK hP (by omega) h0 rfl 1 (by decide) k4 rfl dX10_town_30 ?_
          refine lv_aload_n hx hb dX10_town_33 rfl (lv_at hl 0 rfl) ?_
          refine r_get (own := RX10) (T := TX10) (n := 9) (ci := 10) (v := .ref (ad 1)) hx hb hts nX10 hown hK hP (by omega) h0 rfl 0 (by decide) k0 rfl dX10_town_34 ?_
          refine r_getN (own := RX10) (T := TX5) (n := 7) (ci := 5) (v := .ref (ad 3)) hx hb hts nX5 hown hK hP (by omega) h1 rfl 1 (by decide) k5 rfl dX10_town_37 ?_
          refine lv_iload_n hx hb dX10_town_40 rfl (lv_at hl 2 rfl) ?_
          obtain ⟨i39, x38, ex38, hf⟩ := ri_e hf
          refine r_iald hx hb hK hP (by omega) h3 i39 dX10_town_41 ex38 ?_
          refine lv_aload_n hx hb dX10_town_42 rfl (lv_at hl 0 rfl) ?_
          refine r_get (own := RX10) (T := TX10) (n := 9) (ci := 10) (v := .ref (ad 1)) hx hb hts nX10 hown hK hP (by omega) h0 rfl 0 (by decide) k0 rfl dX10_town_43 ?_
          refine r_getN (own := RX10) (T := TX5) (n := 7) (ci := 5) (v := .ref (ad 4)) hx hb hts nX5 hown hK hP (by omega) h1 rfl 2 (by decide) k6 rfl dX10_town_46 ?_
          refine lv_iload_n hx hb dX10_town_49 rfl (lv_at hl 2 rfl) ?_
          refine lv_iconst (v := 5) hx hb dX10_town_50 (by decide) ?_
          refine lv_imul hx hb dX10_town_51 ?_
          obtain ⟨q40, hq40, hf⟩ := bd_e hf
          refine k_vW (va_runV (C := RX7) (As := [.int x38, .ref (ad 4), .int (x3 * 5)]) (rest := []) ⟨hx, hb, hml, hown, hts⟩ (c_X7_tell (l := l) (sz := H.size) (p0 := x38) (p2 := (x3 * 5)) hN hI h4 h5 h6 h7 h8 h9 h10 h11 h12 h13 h14 h15 h16 h17 h18 hq40) (cwV 3 hts gX10_town_X7_tell rfl rfl rfl (by decide +kernel) ⟨Nat.le_of_ble_eq_true rfl, Nat.le_of_ble_eq_true rfl⟩) (preV_of hK hP (by omega) h5 rfl) rfl rfl hl.1 rfl (lv_room (Nat.le_of_ble_eq_true rfl)) dX10_town_52 ⟨Nat.le_of_ble_eq_true rfl, Nat.le_of_ble_eq_true rfl⟩) hA hAd hS (fun C H locs hP hS hpo => ?_)
          obtain ⟨he, h10, h11, h12, h13, h14, h15, h16, h17, h18, h5, h6, h7, h8, h9⟩ := hpo
          have hag : ∀ i : Nat, i ≠ 1 ∧ i ≠ 10 ∧ i ≠ 11 ∧ i ≠ 12 ∧ i ≠ 13 ∧ i ≠ 14 ∧ i ≠ 15 ∧ i ≠ 16 ∧ i ≠ 17 ∧ i ≠ 18 ∧ i ≠ 19 ∧ i ≠ 20 ∧ i ≠ 22 ∧ i ≠ 3 ∧ i ≠ 4 ∧ i ≠ 5 ∧ i ≠ 6 ∧ i ≠ 60 ∧ i ≠ 7 ∧ i ≠ 77 ∧ i ≠ 8 ∧ i ≠ 9 ∧ (i < 24 ∨ 64 < i ∨ i = 60 ∨ i = 61) → C i = C0 i := fun i h => (he i (by omega)).trans (hag i h)
          have h0 := (he 0 (by decide)).trans h0
          have h1 := (he 1 (by decide)).trans h1
          have h2 := (he 2 (by decide)).trans h2
          have h3 := (he 3 (by decide)).trans h3
          have h4 := (he 4 (by decide)).trans h4
          have h19 := (he 19 (by decide)).trans h19
          have h20 := (he 20 (by decide)).trans h20
          have h21 := (he 21 (by decide)).trans h21
          have h22 := (he 22 (by decide)).trans h22
          have h23 := (he 23 (by decide)).trans h23
          have h60 := (he 60 (by decide)).trans h60
          have h77 := (he 77 (by decide)).trans h77
          have hS_ := hS_.ne (fun i h1 h2 => he i (by omega))
          obtain ⟨x41, ex41, hf⟩ := lt_e hf
          refine lv_iinc (v := x41) (lv' := [(2, .int x41), (0, .ref (ad 0)), (1, .int q1.2.1)]) hx hb dX10_town_55 hl (k := 2) rfl (by rw [ex41]; rfl) (by decide) rfl (fun ls hl => ?_)
          refine lv_goto (tgt := 24) hx hb dX10_town_58 (by decide) ?_
          exact ih x41 q40.1 q40.2.2.2.2.2.2.2.1 q40.2.2.2.1 q40.2.2.2.2.1 q40.2.2.2.2.2.2.2.2.2.2.2.2.2.2.1 q40.2.2.2.2.2.1 q40.2.1 q40.2.2.2.2.2.2.2.2.2.2.2.2.2.2.2 q40.2.2.1 q40.2.2.2.2.2.2.2.2.2.1 q40.2.2.2.2.2.2.1 q40.2.2.2.2.2.2.2.2.2.2.1 q40.2.2.2.2.2.2.2.2.2.2.2.2.2.1 q40.2.2.2.2.2.2.2.2.1 q40.2.2.2.2.2.2.2.2.2.2.2.2.1 q40.2.2.2.2.2.2.2.2.2.2.2.1 C H locs ls hP hS hag h0 h1 h2 h3 h4 h5 h6 h7 h8 h9 h10 h11 h12 h13 h14 h15 h16 h17 h18 h19 h20 h21 h22 h23 h60 h77 hS_ (lv_sub hl [1, 2, 0] rfl) hf
    refine key24 _ (fun x20 f21 f22 f23 f24 x25 f26 f27 x28 f29 f30 f31 f32 x33 f34 f35 f36 C H locs ls hP hS hag h0 h1 h2 h3 h4 h5 h6 h7 h8 h9 h10 h11 h12 h13 h14 h15 h16 h17 h18 h19 h20 h21 h22 h23 h60 h77 hS_ hl hf => ?_) FU 0 t_down t_from t_gone t_infl t_lift t_lik t_min t_none t_pac t_rain t_str t_tell t_there t_unt t_wn t_wy C H locs ls hP hS hag h0 h1 h2 h3 h4 h5 h6 h7 h8 h9 h10 h11 h12 h13 h14 h15 h16 h17 h18 h19 h20 h21 h22 h23 h60 h77 hS_ (lv_sub hl [2, 1, 0] rfl) hf
    refine lv_aload_n hx hb dX10_town_61 rfl (lv_at hl 0 rfl) ?_
    refine r_get (own := RX10) (T := TX10) (n := 9) (ci := 10) (v := .ref (ad 1)) hx hb hts nX10 hown hK hP (by omega) h0 rfl 0 (by decide) k0 rfl dX10_town_62 ?_
    obtain ⟨q42, hq42, hf⟩ := bd_e hf
    refine k_iW (va_runV (C := RX5) (As := []) (rest := []) ⟨hx, hb, hml, hown, hts⟩ (c_X5_empty (l := l) (sz := H.size)  hN hI h1 hq42) (cwV 0 hts gX10_town_X5_empty rfl rfl rfl (by decide +kernel) ⟨Nat.le_of_ble_eq_true rfl, Nat.le_of_ble_eq_true rfl⟩) (preV_of hK hP (by omega) h1 rfl) rfl rfl hl.1 rfl (lv_room (Nat.le_of_ble_eq_true rfl)) dX10_town_65 ⟨Nat.le_of_ble_eq_true rfl, Nat.le_of_ble_eq_true rfl⟩) hA hAd hS (fun C H locs hP hS hpo hbz_q42 => ?_)
    obtain ⟨he, h1⟩ := hpo
    have hag : ∀ i : Nat, i ≠ 1 ∧ i ≠ 10 ∧ i ≠ 11 ∧ i ≠ 12 ∧ i ≠ 13 ∧ i ≠ 14 ∧ i ≠ 15 ∧ i ≠ 16 ∧ i ≠ 17 ∧ i ≠ 18 ∧ i ≠ 19 ∧ i ≠ 20 ∧ i ≠ 22 ∧ i ≠ 3 ∧ i ≠ 4 ∧ i ≠ 5 ∧ i ≠ 6 ∧ i ≠ 60 ∧ i ≠ 7 ∧ i ≠ 77 ∧ i ≠ 8 ∧ i ≠ 9 ∧ (i < 24 ∨ 64 < i ∨ i = 60 ∨ i = 61) → C i = C0 i := fun i h => (he i (by omega)).trans (hag i h)
    have h0 := (he 0 (by decide)).trans h0
    have h2 := (he 2 (by decide)).trans h2
    have h3 := (he 3 (by decide)).trans h3
    have h4 := (he 4 (by decide)).trans h4
    have h5 := (he 5 (by decide)).trans h5
    have h6 := (he 6 (by decide)).trans h6
    have h7 := (he 7 (by decide)).trans h7
    have h8 := (he 8 (by decide)).trans h8
    have h9 := (he 9 (by decide)).trans h9
    have h10 := (he 10 (by decide)).trans h10
    have h11 := (he 11 (by decide)).trans h11
    have h12 := (he 12 (by decide)).trans h12
    have h13 := (he 13 (by decide)).trans h13
    have h14 := (he 14 (by decide)).trans h14
    have h15 := (he 15 (by decide)).trans h15
    have h16 := (he 16 (by decide)).trans h16
    have h17 := (he 17 (by decide)).trans h17
    have h18 := (he 18 (by decide)).trans h18
    have h19 := (he 19 (by decide)).trans h19
    have h20 := (he 20 (by decide)).trans h20
    have h21 := (he 21 (by decide)).trans h21
    have h22 := (he 22 (by decide)).trans h22
    have h23 := (he 23 (by decide)).trans h23
    have h60 := (he 60 (by decide)).trans h60
    have h77 := (he 77 (by decide)).trans h77
    have hS_ := hS_.ne (fun i h1 h2 => he i (by omega))
    refine lv_pop hx hb dX10_town_68 rfl ?_
    refine lv_aload_n hx hb dX10_town_69 rfl (lv_at hl 0 rfl) ?_
    obtain ⟨q43, hq43, hf⟩ := bd_e hf
    refine k_vW (va_runV (C := RX10) (As := []) (rest := []) ⟨hx, hb, hml, hown, hts⟩ (c_X10_lookAgain (l := l) (sz := H.size)  hN hI h0 h5 h6 h7 h9 h10 h11 h12 h13 h14 h19 h20 h21 h22 h23 h60 h77 hS_ hq43) (cwV 0 hts gX10_town_X10_lookAgain rfl rfl rfl (by decide +kernel) ⟨Nat.le_of_ble_eq_true rfl, Nat.le_of_ble_eq_true rfl⟩) (preV_of hK hP (by omega) h0 rfl) rfl rfl hl.1 rfl (lv_room (Nat.le_of_ble_eq_true rfl)) dX10_town_70 ⟨Nat.le_of_ble_eq_true rfl, Nat.le_of_ble_eq_true rfl⟩) hA hAd hS (fun C H locs hP hS hpo => ?_)
    obtain ⟨he, h19, h20, h22, h60, h77, hS_⟩ := hpo
    have hag : ∀ i : Nat, i ≠ 1 ∧ i ≠ 10 ∧ i ≠ 11 ∧ i ≠ 12 ∧ i ≠ 13 ∧ i ≠ 14 ∧ i ≠ 15 ∧ i ≠ 16 ∧ i ≠ 17 ∧ i ≠ 18 ∧ i ≠ 19 ∧ i ≠ 20 ∧ i ≠ 22 ∧ i ≠ 3 ∧ i ≠ 4 ∧ i ≠ 5 ∧ i ≠ 6 ∧ i ≠ 60 ∧ i ≠ 7 ∧ i ≠ 77 ∧ i ≠ 8 ∧ i ≠ 9 ∧ (i < 24 ∨ 64 < i ∨ i = 60 ∨ i = 61) → C i = C0 i := fun i h => (he i (by omega)).trans (hag i h)
    have h0 := (he 0 (by decide)).trans h0
    have h1 := (he 1 (by decide)).trans h1
    have h2 := (he 2 (by decide)).trans h2
    have h3 := (he 3 (by decide)).trans h3
    have h4 := (he 4 (by decide)).trans h4
    have h5 := (he 5 (by decide)).trans h5
    have h6 := (he 6 (by decide)).trans h6
    have h7 := (he 7 (by decide)).trans h7
    have h8 := (he 8 (by decide)).trans h8
    have h9 := (he 9 (by decide)).trans h9
    have h10 := (he 10 (by decide)).trans h10
    have h11 := (he 11 (by decide)).trans h11
    have h12 := (he 12 (by decide)).trans h12
    have h13 := (he 13 (by decide)).trans h13
    have h14 := (he 14 (by decide)).trans h14
    have h15 := (he 15 (by decide)).trans h15
    have h16 := (he 16 (by decide)).trans h16
    have h17 := (he 17 (by decide)).trans h17
    have h18 := (he 18 (by decide)).trans h18
    have h21 := (he 21 (by decide)).trans h21
    have h23 := (he 23 (by decide)).trans h23
    refine lv_iload_n hx hb dX10_town_73 rfl (lv_at hl 1 rfl) ?_
    obtain rfl := Option.some.inj hf
    rw [← hQ]
    exact e_iW hx hb hr rfl (tP_i _) hP hS ⟨hag, h1, h10, h11, h12, h13, h14, h15, h16, h17, h18, h19, h20, h22, h3, h4, h5, h6, h60, h7, h77, h8, h9, hS_⟩ hlocks dX10_town_74
  · have hf := ie_e c2 hf
    refine lv_bipush (v := (-4)) hx hb dX10_town_11 (by decide) ?_
    obtain rfl := Option.some.inj hf
    rw [← hQ]
    exact e_iW hx hb hr rfl (tP_i _) hP hS ⟨hag, h1, h10, h11, h12, h13, h14, h15, h16, h17, h18, h19, h20, h22, h3, h4, h5, h6, h60, h7, h77, h8, h9, hS_⟩ hlocks dX10_town_13

